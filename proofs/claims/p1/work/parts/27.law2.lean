set_option maxHeartbeats 4000000 in
set_option maxRecDepth 100000 in
theorem law_c50 {p : Program} {e : Env} {s : State} {m : MethodId} {below : List Frame} {meth : Method} {c : Code} (l : Launch) {b : Nat} {xs : Nat → Int32} {A : Nat → Prop} {D : va_G} {k : Nat → ClassId} {q : Nat → Nat} {H : Heap} {locs : List Loc} {ls : Array Slot} (C : LC p s m meth c b xs A D k q H locs ls) : W p l e room_1 s m #[Value.ref b] below meth c H locs 123 16705 (lw_Z below #[Value.ref b] s) (F0 m 2087 ls []) := by
  obtain ⟨hx, hb, hr, hml, hown, hts, hKK, hX, hbl, hbA, hA, hAf, hlocks, hP, hD, hS, hl⟩ := C
  refine lv_aload_n hx hb dL_law_2087 rfl (lv_at hl 2 rfl) ?_
  refine lv_aload_n hx hb dL_law_2088 rfl (lv_at hl 3 rfl) ?_
  refine lv_iload_n hx hb dL_law_2089 rfl (lv_at hl 0 rfl) ?_
  refine lv_iconst (v := 1) hx hb dL_law_2090 (by decide) ?_
  refine lv_iadd hx hb dL_law_2091 ?_
  refine lv_topi (fun x_1 ex_1 => ?_)
  obtain rfl : x_1 = 1 := ex_1.trans (by decide +kernel)
  refine va_sld hx hb hX hbl hbA hS (xin 1 6 rfl (by decide) (by decide)) dL_law_2092 ?_
  refine W.eq (g2 := F0 m 2093 ls [.int (xs 1), .ref (q 0)]) rfl ?_
  refine lv_aload_n hx hb dL_law_2093 rfl (lv_at hl 3 rfl) ?_
  refine lv_iload_n hx hb dL_law_2094 rfl (lv_at hl 0 rfl) ?_
  refine lv_iconst (v := 2) hx hb dL_law_2095 (by decide) ?_
  refine lv_iadd hx hb dL_law_2096 ?_
  refine lv_topi (fun x_2 ex_2 => ?_)
  obtain rfl : x_2 = 2 := ex_2.trans (by decide +kernel)
  refine va_sld hx hb hX hbl hbA hS (xin 2 6 rfl (by decide) (by decide)) dL_law_2097 ?_
  refine W.eq (g2 := F0 m 2098 ls [.int (xs 2), .int (xs 1), .ref (q 0)]) rfl ?_
  refine lv_aload_n hx hb dL_law_2098 rfl (lv_at hl 3 rfl) ?_
  refine lv_iload_n hx hb dL_law_2099 rfl (lv_at hl 0 rfl) ?_
  refine lv_iconst (v := 3) hx hb dL_law_2100 (by decide) ?_
  refine lv_iadd hx hb dL_law_2101 ?_
  refine lv_topi (fun x_3 ex_3 => ?_)
  obtain rfl : x_3 = 3 := ex_3.trans (by decide +kernel)
  refine va_sld hx hb hX hbl hbA hS (xin 3 6 rfl (by decide) (by decide)) dL_law_2102 ?_
  refine W.eq (g2 := F0 m 2103 ls [.int (xs 3), .int (xs 2), .int (xs 1), .ref (q 0)]) rfl ?_
  refine CWV (As := [.int (xs 1), .int (xs 2), .int (xs 3)]) (rest := []) (wc := [((q 0), .inr (11, [.ref (q 1), .ref (q 2), .ref (q 3), .ref (q 4), .ref (q 5), .ref (q 6), .ref (q 7), .ref (q 8), .ref (q 9), .ref (q 10), .ref (q 11), .int 0, .int 0, .int 0, .long 0, .long 1])), ((q 2), .inr (8, [.ref (q 20), .ref (q 21), .ref (q 22)])), ((q 20), .inr (5, [.ref (q 23), .ref (q 24), .ref (q 25), .int 0, .int 0, .int 0, .int 0])), ((q 21), .inr (0, [.ref (q 26), .ref (q 27), .ref (q 28), .ref (q 29), .int 0, .int 0]))]) (wr := [((q 200), .inr (12, [.ref (q 201), .ref (q 202), .int 0, .long 0, .long 1, .ref (q 203), .ref (q 204), .ref (q 205), .ref (q 206), .ref (q 207), .int 0, .int 0, .int 0, .int 0, .int 0, .int 0, .int (-1), .int (-1), .int 0, .int 0, .int 0, .ref (q 208), .int 0, .int 0, .ref (q 209), .ref (q 210), .ref (q 211), .ref (q 212), .ref (q 213), .int 0, .int 0, .ref (q 214), .ref (q 215), .ref (q 216), .int 0, .int 0])), ((q 201), .inl (k 1, 5340, .inl at0))]) hx hb hml hown hts hKK hP hD hS hA (p_answered l D k q (xs 1) (xs 2) (xs 3)) ci_X11_answered qm_L_226 ⟨Nat.le_of_ble_eq_true rfl, Nat.le_of_ble_eq_true rfl⟩ ⟨Nat.le_of_ble_eq_true rfl, Nat.le_of_ble_eq_true rfl⟩ [0, 11, 12, 16] [66, 67] rfl rfl rfl rfl rfl (by decide) 0 rfl rfl rfl hl.1 rfl (Nat.le_of_ble_eq_true rfl) dL_law_2103 (fun u_4 H locs hφ hP hD hS => ?_)
  have hP : va_P D vwCl [((q 200), .inr (12, [.ref (q 201), .ref (q 202), .int 0, .long 0, .long 1, .ref (q 203), .ref (q 204), .ref (q 205), .ref (q 206), .ref (q 207), .int 0, .int 0, .int 0, .int 0, .int 0, .int 0, .int (-1), .int (-1), .int 0, .int 0, .int 0, .ref (q 208), .int 0, .int 0, .ref (q 209), .ref (q 210), .ref (q 211), .ref (q 212), .ref (q 213), .int 0, .int 0, .ref (q 214), .ref (q 215), .ref (q 216), .int 0, .int 0])), ((q 201), .inl (k 1, 5340, .inl at0))] H := hP
  have hD : va_D A [((q 200), .inr (12, [.ref (q 201), .ref (q 202), .int 0, .long 0, .long 1, .ref (q 203), .ref (q 204), .ref (q 205), .ref (q 206), .ref (q 207), .int 0, .int 0, .int 0, .int 0, .int 0, .int 0, .int (-1), .int (-1), .int 0, .int 0, .int 0, .ref (q 208), .int 0, .int 0, .ref (q 209), .ref (q 210), .ref (q 211), .ref (q 212), .ref (q 213), .int 0, .int 0, .ref (q 214), .ref (q 215), .ref (q 216), .int 0, .int 0])), ((q 201), .inl (k 1, 5340, .inl at0))] := hD
  refine W.eq (g2 := F0 m 2106 ls [.int (-1)]) rfl ?_
  refine lv_aload_n hx hb dL_law_2106 rfl (lv_at hl 1 rfl) ?_
  refine lv_aload_n hx hb dL_law_2107 rfl (lv_at hl 3 rfl) ?_
  refine lv_iload_n hx hb dL_law_2108 rfl (lv_at hl 0 rfl) ?_
  refine lv_iconst (v := 1) hx hb dL_law_2109 (by decide) ?_
  refine lv_iadd hx hb dL_law_2110 ?_
  refine lv_topi (fun x_5 ex_5 => ?_)
  obtain rfl : x_5 = 1 := ex_5.trans (by decide +kernel)
  refine va_sld hx hb hX hbl hbA hS (xin 1 6 rfl (by decide) (by decide)) dL_law_2111 ?_
  refine W.eq (g2 := F0 m 2112 ls [.int (xs 1), .ref (q 200), .int (-1)]) rfl ?_
  refine lv_aload_n hx hb dL_law_2112 rfl (lv_at hl 3 rfl) ?_
  refine lv_iload_n hx hb dL_law_2113 rfl (lv_at hl 0 rfl) ?_
  refine lv_iconst (v := 2) hx hb dL_law_2114 (by decide) ?_
  refine lv_iadd hx hb dL_law_2115 ?_
  refine lv_topi (fun x_6 ex_6 => ?_)
  obtain rfl : x_6 = 2 := ex_6.trans (by decide +kernel)
  refine va_sld hx hb hX hbl hbA hS (xin 2 6 rfl (by decide) (by decide)) dL_law_2116 ?_
  refine W.eq (g2 := F0 m 2117 ls [.int (xs 2), .int (xs 1), .ref (q 200), .int (-1)]) rfl ?_
  refine lv_aload_n hx hb dL_law_2117 rfl (lv_at hl 3 rfl) ?_
  refine lv_iload_n hx hb dL_law_2118 rfl (lv_at hl 0 rfl) ?_
  refine lv_iconst (v := 3) hx hb dL_law_2119 (by decide) ?_
  refine lv_iadd hx hb dL_law_2120 ?_
  refine lv_topi (fun x_7 ex_7 => ?_)
  obtain rfl : x_7 = 3 := ex_7.trans (by decide +kernel)
  refine va_sld hx hb hX hbl hbA hS (xin 3 6 rfl (by decide) (by decide)) dL_law_2121 ?_
  refine W.eq (g2 := F0 m 2122 ls [.int (xs 3), .int (xs 2), .int (xs 1), .ref (q 200), .int (-1)]) rfl ?_
  refine CWV (As := [.int (xs 1), .int (xs 2), .int (xs 3)]) (rest := [.int (-1)]) (wc := [((q 200), .inr (12, [.ref (q 201), .ref (q 202), .int 0, .long 0, .long 1, .ref (q 203), .ref (q 204), .ref (q 205), .ref (q 206), .ref (q 207), .int 0, .int 0, .int 0, .int 0, .int 0, .int 0, .int (-1), .int (-1), .int 0, .int 0, .int 0, .ref (q 208), .int 0, .int 0, .ref (q 209), .ref (q 210), .ref (q 211), .ref (q 212), .ref (q 213), .int 0, .int 0, .ref (q 214), .ref (q 215), .ref (q 216), .int 0, .int 0])), ((q 201), .inl (k 1, 5340, .inl at0))]) (wr := []) hx hb hml hown hts hKK hP hD hS hA (r_answered l D k q (xs 1) (xs 2) (xs 3)) ci_X12_answered qm_L_229 ⟨Nat.le_of_ble_eq_true rfl, Nat.le_of_ble_eq_true rfl⟩ ⟨Nat.le_of_ble_eq_true rfl, Nat.le_of_ble_eq_true rfl⟩ [0, 1] [] rfl rfl rfl rfl rfl (by decide) 0 rfl rfl rfl hl.1 rfl (Nat.le_of_ble_eq_true rfl) dL_law_2122 (fun u_8 H locs hφ hP hD hS => ?_)
  have hP : va_P D vwCl [] H := hP
  have hD : va_D A [] := hD
  refine W.eq (g2 := F0 m 2125 ls [.int (-1), .int (-1)]) rfl ?_
  refine lv_icmp_eq (tgt := 2849) hx hb dL_law_2125 (by decide) (fun _ => ?_) (fun c => absurd (by decide) c)
  exact law_done hx hb hr hlocks hX hbl hbA hAf hS (by decide) (by decide) hl
set_option maxHeartbeats 4000000 in
set_option maxRecDepth 100000 in
theorem law_c51 {p : Program} {e : Env} {s : State} {m : MethodId} {below : List Frame} {meth : Method} {c : Code} (l : Launch) {b : Nat} {xs : Nat → Int32} {A : Nat → Prop} {D : va_G} {k : Nat → ClassId} {q : Nat → Nat} {H : Heap} {locs : List Loc} {ls : Array Slot} (C : LC p s m meth c b xs A D k q H locs ls) : W p l e room_1 s m #[Value.ref b] below meth c H locs 123 16705 (lw_Z below #[Value.ref b] s) (F0 m 2130 ls []) := by
  obtain ⟨hx, hb, hr, hml, hown, hts, hKK, hX, hbl, hbA, hA, hAf, hlocks, hP, hD, hS, hl⟩ := C
  refine lv_aload_n hx hb dL_law_2130 rfl (lv_at hl 2 rfl) ?_
  refine lv_aload_n hx hb dL_law_2131 rfl (lv_at hl 3 rfl) ?_
  refine lv_iload_n hx hb dL_law_2132 rfl (lv_at hl 0 rfl) ?_
  refine lv_iconst (v := 1) hx hb dL_law_2133 (by decide) ?_
  refine lv_iadd hx hb dL_law_2134 ?_
  refine lv_topi (fun x_1 ex_1 => ?_)
  obtain rfl : x_1 = 1 := ex_1.trans (by decide +kernel)
  refine va_sld hx hb hX hbl hbA hS (xin 1 6 rfl (by decide) (by decide)) dL_law_2135 ?_
  refine W.eq (g2 := F0 m 2136 ls [.int (xs 1), .ref (q 0)]) rfl ?_
  refine lv_aload_n hx hb dL_law_2136 rfl (lv_at hl 3 rfl) ?_
  refine lv_iload_n hx hb dL_law_2137 rfl (lv_at hl 0 rfl) ?_
  refine lv_iconst (v := 2) hx hb dL_law_2138 (by decide) ?_
  refine lv_iadd hx hb dL_law_2139 ?_
  refine lv_topi (fun x_2 ex_2 => ?_)
  obtain rfl : x_2 = 2 := ex_2.trans (by decide +kernel)
  refine va_sld hx hb hX hbl hbA hS (xin 2 6 rfl (by decide) (by decide)) dL_law_2140 ?_
  refine W.eq (g2 := F0 m 2141 ls [.int (xs 2), .int (xs 1), .ref (q 0)]) rfl ?_
  refine CWV (As := [.int (xs 1), .int (xs 2)]) (rest := []) (wc := [((q 0), .inr (11, [.ref (q 1), .ref (q 2), .ref (q 3), .ref (q 4), .ref (q 5), .ref (q 6), .ref (q 7), .ref (q 8), .ref (q 9), .ref (q 10), .ref (q 11), .int 0, .int 0, .int 0, .long 0, .long 1])), ((q 2), .inr (8, [.ref (q 20), .ref (q 21), .ref (q 22)])), ((q 20), .inr (5, [.ref (q 23), .ref (q 24), .ref (q 25), .int 0, .int 0, .int 0, .int 0])), ((q 21), .inr (0, [.ref (q 26), .ref (q 27), .ref (q 28), .ref (q 29), .int 0, .int 0]))]) (wr := [((q 200), .inr (12, [.ref (q 201), .ref (q 202), .int 0, .long 0, .long 1, .ref (q 203), .ref (q 204), .ref (q 205), .ref (q 206), .ref (q 207), .int 0, .int 0, .int 0, .int 0, .int 0, .int 0, .int (-1), .int (-1), .int 0, .int 0, .int 0, .ref (q 208), .int 0, .int 0, .ref (q 209), .ref (q 210), .ref (q 211), .ref (q 212), .ref (q 213), .int 0, .int 0, .ref (q 214), .ref (q 215), .ref (q 216), .int 0, .int 0])), ((q 201), .inl (k 1, 5340, .inl at0))]) hx hb hml hown hts hKK hP hD hS hA (p_joint l D k q (xs 1) (xs 2)) ci_X11_joint qm_L_230 ⟨Nat.le_of_ble_eq_true rfl, Nat.le_of_ble_eq_true rfl⟩ ⟨Nat.le_of_ble_eq_true rfl, Nat.le_of_ble_eq_true rfl⟩ [0, 11, 12, 16] [66, 67] rfl rfl rfl rfl rfl (by decide) 0 rfl rfl rfl hl.1 rfl (Nat.le_of_ble_eq_true rfl) dL_law_2141 (fun u_3 H locs hφ hP hD hS => ?_)
  have hP : va_P D vwCl [((q 200), .inr (12, [.ref (q 201), .ref (q 202), .int 0, .long 0, .long 1, .ref (q 203), .ref (q 204), .ref (q 205), .ref (q 206), .ref (q 207), .int 0, .int 0, .int 0, .int 0, .int 0, .int 0, .int (-1), .int (-1), .int 0, .int 0, .int 0, .ref (q 208), .int 0, .int 0, .ref (q 209), .ref (q 210), .ref (q 211), .ref (q 212), .ref (q 213), .int 0, .int 0, .ref (q 214), .ref (q 215), .ref (q 216), .int 0, .int 0])), ((q 201), .inl (k 1, 5340, .inl at0))] H := hP
  have hD : va_D A [((q 200), .inr (12, [.ref (q 201), .ref (q 202), .int 0, .long 0, .long 1, .ref (q 203), .ref (q 204), .ref (q 205), .ref (q 206), .ref (q 207), .int 0, .int 0, .int 0, .int 0, .int 0, .int 0, .int (-1), .int (-1), .int 0, .int 0, .int 0, .ref (q 208), .int 0, .int 0, .ref (q 209), .ref (q 210), .ref (q 211), .ref (q 212), .ref (q 213), .int 0, .int 0, .ref (q 214), .ref (q 215), .ref (q 216), .int 0, .int 0])), ((q 201), .inl (k 1, 5340, .inl at0))] := hD
  refine W.eq (g2 := F0 m 2144 ls [.int (-1)]) rfl ?_
  refine lv_aload_n hx hb dL_law_2144 rfl (lv_at hl 1 rfl) ?_
  refine lv_aload_n hx hb dL_law_2145 rfl (lv_at hl 3 rfl) ?_
  refine lv_iload_n hx hb dL_law_2146 rfl (lv_at hl 0 rfl) ?_
  refine lv_iconst (v := 1) hx hb dL_law_2147 (by decide) ?_
  refine lv_iadd hx hb dL_law_2148 ?_
  refine lv_topi (fun x_4 ex_4 => ?_)
  obtain rfl : x_4 = 1 := ex_4.trans (by decide +kernel)
  refine va_sld hx hb hX hbl hbA hS (xin 1 6 rfl (by decide) (by decide)) dL_law_2149 ?_
  refine W.eq (g2 := F0 m 2150 ls [.int (xs 1), .ref (q 200), .int (-1)]) rfl ?_
  refine lv_aload_n hx hb dL_law_2150 rfl (lv_at hl 3 rfl) ?_
  refine lv_iload_n hx hb dL_law_2151 rfl (lv_at hl 0 rfl) ?_
  refine lv_iconst (v := 2) hx hb dL_law_2152 (by decide) ?_
  refine lv_iadd hx hb dL_law_2153 ?_
  refine lv_topi (fun x_5 ex_5 => ?_)
  obtain rfl : x_5 = 2 := ex_5.trans (by decide +kernel)
  refine va_sld hx hb hX hbl hbA hS (xin 2 6 rfl (by decide) (by decide)) dL_law_2154 ?_
  refine W.eq (g2 := F0 m 2155 ls [.int (xs 2), .int (xs 1), .ref (q 200), .int (-1)]) rfl ?_
  refine CWV (As := [.int (xs 1), .int (xs 2)]) (rest := [.int (-1)]) (wc := [((q 200), .inr (12, [.ref (q 201), .ref (q 202), .int 0, .long 0, .long 1, .ref (q 203), .ref (q 204), .ref (q 205), .ref (q 206), .ref (q 207), .int 0, .int 0, .int 0, .int 0, .int 0, .int 0, .int (-1), .int (-1), .int 0, .int 0, .int 0, .ref (q 208), .int 0, .int 0, .ref (q 209), .ref (q 210), .ref (q 211), .ref (q 212), .ref (q 213), .int 0, .int 0, .ref (q 214), .ref (q 215), .ref (q 216), .int 0, .int 0])), ((q 201), .inl (k 1, 5340, .inl at0))]) (wr := []) hx hb hml hown hts hKK hP hD hS hA (r_joint l D k q (xs 1) (xs 2)) ci_X12_joint qm_L_233 ⟨Nat.le_of_ble_eq_true rfl, Nat.le_of_ble_eq_true rfl⟩ ⟨Nat.le_of_ble_eq_true rfl, Nat.le_of_ble_eq_true rfl⟩ [0, 1] [] rfl rfl rfl rfl rfl (by decide) 0 rfl rfl rfl hl.1 rfl (Nat.le_of_ble_eq_true rfl) dL_law_2155 (fun u_6 H locs hφ hP hD hS => ?_)
  have hP : va_P D vwCl [] H := hP
  have hD : va_D A [] := hD
  refine W.eq (g2 := F0 m 2158 ls [.int (-1), .int (-1)]) rfl ?_
  refine lv_icmp_eq (tgt := 2849) hx hb dL_law_2158 (by decide) (fun _ => ?_) (fun c => absurd (by decide) c)
  exact law_done hx hb hr hlocks hX hbl hbA hAf hS (by decide) (by decide) hl
set_option maxHeartbeats 4000000 in
set_option maxRecDepth 100000 in
theorem law_c52 {p : Program} {e : Env} {s : State} {m : MethodId} {below : List Frame} {meth : Method} {c : Code} (l : Launch) {b : Nat} {xs : Nat → Int32} {A : Nat → Prop} {D : va_G} {k : Nat → ClassId} {q : Nat → Nat} {H : Heap} {locs : List Loc} {ls : Array Slot} (C : LC p s m meth c b xs A D k q H locs ls) : W p l e room_1 s m #[Value.ref b] below meth c H locs 123 16705 (lw_Z below #[Value.ref b] s) (F0 m 2163 ls []) := by
  obtain ⟨hx, hb, hr, hml, hown, hts, hKK, hX, hbl, hbA, hA, hAf, hlocks, hP, hD, hS, hl⟩ := C
  refine lv_aload_n hx hb dL_law_2163 rfl (lv_at hl 2 rfl) ?_
  refine lv_aload_n hx hb dL_law_2164 rfl (lv_at hl 3 rfl) ?_
  refine lv_iload_n hx hb dL_law_2165 rfl (lv_at hl 0 rfl) ?_
  refine lv_iconst (v := 1) hx hb dL_law_2166 (by decide) ?_
  refine lv_iadd hx hb dL_law_2167 ?_
  refine lv_topi (fun x_1 ex_1 => ?_)
  obtain rfl : x_1 = 1 := ex_1.trans (by decide +kernel)
  refine va_sld hx hb hX hbl hbA hS (xin 1 6 rfl (by decide) (by decide)) dL_law_2168 ?_
  refine W.eq (g2 := F0 m 2169 ls [.int (xs 1), .ref (q 0)]) rfl ?_
  refine lv_aload_n hx hb dL_law_2169 rfl (lv_at hl 3 rfl) ?_
  refine lv_iload_n hx hb dL_law_2170 rfl (lv_at hl 0 rfl) ?_
  refine lv_iconst (v := 2) hx hb dL_law_2171 (by decide) ?_
  refine lv_iadd hx hb dL_law_2172 ?_
  refine lv_topi (fun x_2 ex_2 => ?_)
  obtain rfl : x_2 = 2 := ex_2.trans (by decide +kernel)
  refine va_sld hx hb hX hbl hbA hS (xin 2 6 rfl (by decide) (by decide)) dL_law_2173 ?_
  refine W.eq (g2 := F0 m 2174 ls [.int (xs 2), .int (xs 1), .ref (q 0)]) rfl ?_
  refine CWV (As := [.int (xs 1), .int (xs 2)]) (rest := []) (wc := [((q 0), .inr (11, [.ref (q 1), .ref (q 2), .ref (q 3), .ref (q 4), .ref (q 5), .ref (q 6), .ref (q 7), .ref (q 8), .ref (q 9), .ref (q 10), .ref (q 11), .int 0, .int 0, .int 0, .long 0, .long 1])), ((q 2), .inr (8, [.ref (q 20), .ref (q 21), .ref (q 22)])), ((q 20), .inr (5, [.ref (q 23), .ref (q 24), .ref (q 25), .int 0, .int 0, .int 0, .int 0])), ((q 21), .inr (0, [.ref (q 26), .ref (q 27), .ref (q 28), .ref (q 29), .int 0, .int 0]))]) (wr := [((q 200), .inr (12, [.ref (q 201), .ref (q 202), .int 0, .long 0, .long 1, .ref (q 203), .ref (q 204), .ref (q 205), .ref (q 206), .ref (q 207), .int 0, .int 0, .int 0, .int 0, .int 0, .int 0, .int (-1), .int (-1), .int 0, .int 0, .int 0, .ref (q 208), .int 0, .int 0, .ref (q 209), .ref (q 210), .ref (q 211), .ref (q 212), .ref (q 213), .int 0, .int 0, .ref (q 214), .ref (q 215), .ref (q 216), .int 0, .int 0])), ((q 201), .inl (k 1, 5340, .inl at0))]) hx hb hml hown hts hKK hP hD hS hA (p_confirmed l D k q (xs 1) (xs 2)) ci_X11_confirmed qm_L_234 ⟨Nat.le_of_ble_eq_true rfl, Nat.le_of_ble_eq_true rfl⟩ ⟨Nat.le_of_ble_eq_true rfl, Nat.le_of_ble_eq_true rfl⟩ [0, 11, 12, 16] [66, 67] rfl rfl rfl rfl rfl (by decide) 0 rfl rfl rfl hl.1 rfl (Nat.le_of_ble_eq_true rfl) dL_law_2174 (fun u_3 H locs hφ hP hD hS => ?_)
  have hP : va_P D vwCl [((q 200), .inr (12, [.ref (q 201), .ref (q 202), .int 0, .long 0, .long 1, .ref (q 203), .ref (q 204), .ref (q 205), .ref (q 206), .ref (q 207), .int 0, .int 0, .int 0, .int 0, .int 0, .int 0, .int (-1), .int (-1), .int 0, .int 0, .int 0, .ref (q 208), .int 0, .int 0, .ref (q 209), .ref (q 210), .ref (q 211), .ref (q 212), .ref (q 213), .int 0, .int 0, .ref (q 214), .ref (q 215), .ref (q 216), .int 0, .int 0])), ((q 201), .inl (k 1, 5340, .inl at0))] H := hP
  have hD : va_D A [((q 200), .inr (12, [.ref (q 201), .ref (q 202), .int 0, .long 0, .long 1, .ref (q 203), .ref (q 204), .ref (q 205), .ref (q 206), .ref (q 207), .int 0, .int 0, .int 0, .int 0, .int 0, .int 0, .int (-1), .int (-1), .int 0, .int 0, .int 0, .ref (q 208), .int 0, .int 0, .ref (q 209), .ref (q 210), .ref (q 211), .ref (q 212), .ref (q 213), .int 0, .int 0, .ref (q 214), .ref (q 215), .ref (q 216), .int 0, .int 0])), ((q 201), .inl (k 1, 5340, .inl at0))] := hD
  refine W.eq (g2 := F0 m 2177 ls [.int (-1)]) rfl ?_
  refine lv_aload_n hx hb dL_law_2177 rfl (lv_at hl 1 rfl) ?_
  refine lv_aload_n hx hb dL_law_2178 rfl (lv_at hl 3 rfl) ?_
  refine lv_iload_n hx hb dL_law_2179 rfl (lv_at hl 0 rfl) ?_
  refine lv_iconst (v := 1) hx hb dL_law_2180 (by decide) ?_
  refine lv_iadd hx hb dL_law_2181 ?_
  refine lv_topi (fun x_4 ex_4 => ?_)
  obtain rfl : x_4 = 1 := ex_4.trans (by decide +kernel)
  refine va_sld hx hb hX hbl hbA hS (xin 1 6 rfl (by decide) (by decide)) dL_law_2182 ?_
  refine W.eq (g2 := F0 m 2183 ls [.int (xs 1), .ref (q 200), .int (-1)]) rfl ?_
  refine lv_aload_n hx hb dL_law_2183 rfl (lv_at hl 3 rfl) ?_
  refine lv_iload_n hx hb dL_law_2184 rfl (lv_at hl 0 rfl) ?_
  refine lv_iconst (v := 2) hx hb dL_law_2185 (by decide) ?_
  refine lv_iadd hx hb dL_law_2186 ?_
  refine lv_topi (fun x_5 ex_5 => ?_)
  obtain rfl : x_5 = 2 := ex_5.trans (by decide +kernel)
  refine va_sld hx hb hX hbl hbA hS (xin 2 6 rfl (by decide) (by decide)) dL_law_2187 ?_
  refine W.eq (g2 := F0 m 2188 ls [.int (xs 2), .int (xs 1), .ref (q 200), .int (-1)]) rfl ?_
  refine CWV (As := [.int (xs 1), .int (xs 2)]) (rest := [.int (-1)]) (wc := [((q 200), .inr (12, [.ref (q 201), .ref (q 202), .int 0, .long 0, .long 1, .ref (q 203), .ref (q 204), .ref (q 205), .ref (q 206), .ref (q 207), .int 0, .int 0, .int 0, .int 0, .int 0, .int 0, .int (-1), .int (-1), .int 0, .int 0, .int 0, .ref (q 208), .int 0, .int 0, .ref (q 209), .ref (q 210), .ref (q 211), .ref (q 212), .ref (q 213), .int 0, .int 0, .ref (q 214), .ref (q 215), .ref (q 216), .int 0, .int 0])), ((q 201), .inl (k 1, 5340, .inl at0))]) (wr := []) hx hb hml hown hts hKK hP hD hS hA (r_confirmed l D k q (xs 1) (xs 2)) ci_X12_confirmed qm_L_237 ⟨Nat.le_of_ble_eq_true rfl, Nat.le_of_ble_eq_true rfl⟩ ⟨Nat.le_of_ble_eq_true rfl, Nat.le_of_ble_eq_true rfl⟩ [0, 1] [] rfl rfl rfl rfl rfl (by decide) 0 rfl rfl rfl hl.1 rfl (Nat.le_of_ble_eq_true rfl) dL_law_2188 (fun u_6 H locs hφ hP hD hS => ?_)
  have hP : va_P D vwCl [] H := hP
  have hD : va_D A [] := hD
  refine W.eq (g2 := F0 m 2191 ls [.int (-1), .int (-1)]) rfl ?_
  refine lv_icmp_eq (tgt := 2849) hx hb dL_law_2191 (by decide) (fun _ => ?_) (fun c => absurd (by decide) c)
  exact law_done hx hb hr hlocks hX hbl hbA hAf hS (by decide) (by decide) hl
set_option maxHeartbeats 4000000 in
set_option maxRecDepth 100000 in
theorem law_c53 {p : Program} {e : Env} {s : State} {m : MethodId} {below : List Frame} {meth : Method} {c : Code} (l : Launch) {b : Nat} {xs : Nat → Int32} {A : Nat → Prop} {D : va_G} {k : Nat → ClassId} {q : Nat → Nat} {H : Heap} {locs : List Loc} {ls : Array Slot} (C : LC p s m meth c b xs A D k q H locs ls) : W p l e room_1 s m #[Value.ref b] below meth c H locs 123 16705 (lw_Z below #[Value.ref b] s) (F0 m 2196 ls []) := by
  obtain ⟨hx, hb, hr, hml, hown, hts, hKK, hX, hbl, hbA, hA, hAf, hlocks, hP, hD, hS, hl⟩ := C
  refine lv_aload_n hx hb dL_law_2196 rfl (lv_at hl 2 rfl) ?_
  refine lv_aload_n hx hb dL_law_2197 rfl (lv_at hl 3 rfl) ?_
  refine lv_iload_n hx hb dL_law_2198 rfl (lv_at hl 0 rfl) ?_
  refine lv_iconst (v := 1) hx hb dL_law_2199 (by decide) ?_
  refine lv_iadd hx hb dL_law_2200 ?_
  refine lv_topi (fun x_1 ex_1 => ?_)
  obtain rfl : x_1 = 1 := ex_1.trans (by decide +kernel)
  refine va_sld hx hb hX hbl hbA hS (xin 1 6 rfl (by decide) (by decide)) dL_law_2201 ?_
  refine W.eq (g2 := F0 m 2202 ls [.int (xs 1), .ref (q 0)]) rfl ?_
  refine lv_aload_n hx hb dL_law_2202 rfl (lv_at hl 3 rfl) ?_
  refine lv_iload_n hx hb dL_law_2203 rfl (lv_at hl 0 rfl) ?_
  refine lv_iconst (v := 2) hx hb dL_law_2204 (by decide) ?_
  refine lv_iadd hx hb dL_law_2205 ?_
  refine lv_topi (fun x_2 ex_2 => ?_)
  obtain rfl : x_2 = 2 := ex_2.trans (by decide +kernel)
  refine va_sld hx hb hX hbl hbA hS (xin 2 6 rfl (by decide) (by decide)) dL_law_2206 ?_
  refine W.eq (g2 := F0 m 2207 ls [.int (xs 2), .int (xs 1), .ref (q 0)]) rfl ?_
  refine lv_aload_n hx hb dL_law_2207 rfl (lv_at hl 3 rfl) ?_
  refine lv_iload_n hx hb dL_law_2208 rfl (lv_at hl 0 rfl) ?_
  refine lv_iconst (v := 3) hx hb dL_law_2209 (by decide) ?_
  refine lv_iadd hx hb dL_law_2210 ?_
  refine lv_topi (fun x_3 ex_3 => ?_)
  obtain rfl : x_3 = 3 := ex_3.trans (by decide +kernel)
  refine va_sld hx hb hX hbl hbA hS (xin 3 6 rfl (by decide) (by decide)) dL_law_2211 ?_
  refine W.eq (g2 := F0 m 2212 ls [.int (xs 3), .int (xs 2), .int (xs 1), .ref (q 0)]) rfl ?_
  refine CWV (As := [.int (xs 1), .int (xs 2), .int (xs 3)]) (rest := []) (wc := [((q 0), .inr (11, [.ref (q 1), .ref (q 2), .ref (q 3), .ref (q 4), .ref (q 5), .ref (q 6), .ref (q 7), .ref (q 8), .ref (q 9), .ref (q 10), .ref (q 11), .int 0, .int 0, .int 0, .long 0, .long 1])), ((q 2), .inr (8, [.ref (q 20), .ref (q 21), .ref (q 22)])), ((q 20), .inr (5, [.ref (q 23), .ref (q 24), .ref (q 25), .int 0, .int 0, .int 0, .int 0])), ((q 21), .inr (0, [.ref (q 26), .ref (q 27), .ref (q 28), .ref (q 29), .int 0, .int 0]))]) (wr := [((q 200), .inr (12, [.ref (q 201), .ref (q 202), .int 0, .long 0, .long 1, .ref (q 203), .ref (q 204), .ref (q 205), .ref (q 206), .ref (q 207), .int 0, .int 0, .int 0, .int 0, .int 0, .int 0, .int (-1), .int (-1), .int 0, .int 0, .int 0, .ref (q 208), .int 0, .int 0, .ref (q 209), .ref (q 210), .ref (q 211), .ref (q 212), .ref (q 213), .int 0, .int 0, .ref (q 214), .ref (q 215), .ref (q 216), .int 0, .int 0])), ((q 201), .inl (k 1, 5340, .inl at0))]) hx hb hml hown hts hKK hP hD hS hA (p_sure l D k q (xs 1) (xs 2) (xs 3)) ci_X11_sure qm_L_238 ⟨Nat.le_of_ble_eq_true rfl, Nat.le_of_ble_eq_true rfl⟩ ⟨Nat.le_of_ble_eq_true rfl, Nat.le_of_ble_eq_true rfl⟩ [0, 11, 12, 16] [66, 67] rfl rfl rfl rfl rfl (by decide) 0 rfl rfl rfl hl.1 rfl (Nat.le_of_ble_eq_true rfl) dL_law_2212 (fun u_4 H locs hφ hP hD hS => ?_)
  have hP : va_P D vwCl [((q 200), .inr (12, [.ref (q 201), .ref (q 202), .int 0, .long 0, .long 1, .ref (q 203), .ref (q 204), .ref (q 205), .ref (q 206), .ref (q 207), .int 0, .int 0, .int 0, .int 0, .int 0, .int 0, .int (-1), .int (-1), .int 0, .int 0, .int 0, .ref (q 208), .int 0, .int 0, .ref (q 209), .ref (q 210), .ref (q 211), .ref (q 212), .ref (q 213), .int 0, .int 0, .ref (q 214), .ref (q 215), .ref (q 216), .int 0, .int 0])), ((q 201), .inl (k 1, 5340, .inl at0))] H := hP
  have hD : va_D A [((q 200), .inr (12, [.ref (q 201), .ref (q 202), .int 0, .long 0, .long 1, .ref (q 203), .ref (q 204), .ref (q 205), .ref (q 206), .ref (q 207), .int 0, .int 0, .int 0, .int 0, .int 0, .int 0, .int (-1), .int (-1), .int 0, .int 0, .int 0, .ref (q 208), .int 0, .int 0, .ref (q 209), .ref (q 210), .ref (q 211), .ref (q 212), .ref (q 213), .int 0, .int 0, .ref (q 214), .ref (q 215), .ref (q 216), .int 0, .int 0])), ((q 201), .inl (k 1, 5340, .inl at0))] := hD
  refine W.eq (g2 := F0 m 2215 ls [.int (-1)]) rfl ?_
  refine lv_aload_n hx hb dL_law_2215 rfl (lv_at hl 1 rfl) ?_
  refine lv_aload_n hx hb dL_law_2216 rfl (lv_at hl 3 rfl) ?_
  refine lv_iload_n hx hb dL_law_2217 rfl (lv_at hl 0 rfl) ?_
  refine lv_iconst (v := 1) hx hb dL_law_2218 (by decide) ?_
  refine lv_iadd hx hb dL_law_2219 ?_
  refine lv_topi (fun x_5 ex_5 => ?_)
  obtain rfl : x_5 = 1 := ex_5.trans (by decide +kernel)
  refine va_sld hx hb hX hbl hbA hS (xin 1 6 rfl (by decide) (by decide)) dL_law_2220 ?_
  refine W.eq (g2 := F0 m 2221 ls [.int (xs 1), .ref (q 200), .int (-1)]) rfl ?_
  refine lv_aload_n hx hb dL_law_2221 rfl (lv_at hl 3 rfl) ?_
  refine lv_iload_n hx hb dL_law_2222 rfl (lv_at hl 0 rfl) ?_
  refine lv_iconst (v := 2) hx hb dL_law_2223 (by decide) ?_
  refine lv_iadd hx hb dL_law_2224 ?_
  refine lv_topi (fun x_6 ex_6 => ?_)
  obtain rfl : x_6 = 2 := ex_6.trans (by decide +kernel)
  refine va_sld hx hb hX hbl hbA hS (xin 2 6 rfl (by decide) (by decide)) dL_law_2225 ?_
  refine W.eq (g2 := F0 m 2226 ls [.int (xs 2), .int (xs 1), .ref (q 200), .int (-1)]) rfl ?_
  refine lv_aload_n hx hb dL_law_2226 rfl (lv_at hl 3 rfl) ?_
  refine lv_iload_n hx hb dL_law_2227 rfl (lv_at hl 0 rfl) ?_
  refine lv_iconst (v := 3) hx hb dL_law_2228 (by decide) ?_
  refine lv_iadd hx hb dL_law_2229 ?_
  refine lv_topi (fun x_7 ex_7 => ?_)
  obtain rfl : x_7 = 3 := ex_7.trans (by decide +kernel)
  refine va_sld hx hb hX hbl hbA hS (xin 3 6 rfl (by decide) (by decide)) dL_law_2230 ?_
  refine W.eq (g2 := F0 m 2231 ls [.int (xs 3), .int (xs 2), .int (xs 1), .ref (q 200), .int (-1)]) rfl ?_
  refine CWV (As := [.int (xs 1), .int (xs 2), .int (xs 3)]) (rest := [.int (-1)]) (wc := [((q 200), .inr (12, [.ref (q 201), .ref (q 202), .int 0, .long 0, .long 1, .ref (q 203), .ref (q 204), .ref (q 205), .ref (q 206), .ref (q 207), .int 0, .int 0, .int 0, .int 0, .int 0, .int 0, .int (-1), .int (-1), .int 0, .int 0, .int 0, .ref (q 208), .int 0, .int 0, .ref (q 209), .ref (q 210), .ref (q 211), .ref (q 212), .ref (q 213), .int 0, .int 0, .ref (q 214), .ref (q 215), .ref (q 216), .int 0, .int 0])), ((q 201), .inl (k 1, 5340, .inl at0))]) (wr := []) hx hb hml hown hts hKK hP hD hS hA (r_sure l D k q (xs 1) (xs 2) (xs 3)) ci_X12_sure qm_L_241 ⟨Nat.le_of_ble_eq_true rfl, Nat.le_of_ble_eq_true rfl⟩ ⟨Nat.le_of_ble_eq_true rfl, Nat.le_of_ble_eq_true rfl⟩ [0, 1] [] rfl rfl rfl rfl rfl (by decide) 0 rfl rfl rfl hl.1 rfl (Nat.le_of_ble_eq_true rfl) dL_law_2231 (fun u_8 H locs hφ hP hD hS => ?_)
  have hP : va_P D vwCl [] H := hP
  have hD : va_D A [] := hD
  refine W.eq (g2 := F0 m 2234 ls [.int (-1), .int (-1)]) rfl ?_
  refine lv_icmp_eq (tgt := 2849) hx hb dL_law_2234 (by decide) (fun _ => ?_) (fun c => absurd (by decide) c)
  exact law_done hx hb hr hlocks hX hbl hbA hAf hS (by decide) (by decide) hl
set_option maxHeartbeats 4000000 in
set_option maxRecDepth 100000 in
theorem law_c54 {p : Program} {e : Env} {s : State} {m : MethodId} {below : List Frame} {meth : Method} {c : Code} (l : Launch) {b : Nat} {xs : Nat → Int32} {A : Nat → Prop} {D : va_G} {k : Nat → ClassId} {q : Nat → Nat} {H : Heap} {locs : List Loc} {ls : Array Slot} (C : LC p s m meth c b xs A D k q H locs ls) : W p l e room_1 s m #[Value.ref b] below meth c H locs 123 16705 (lw_Z below #[Value.ref b] s) (F0 m 2239 ls []) := by
  obtain ⟨hx, hb, hr, hml, hown, hts, hKK, hX, hbl, hbA, hA, hAf, hlocks, hP, hD, hS, hl⟩ := C
  refine lv_aload_n hx hb dL_law_2239 rfl (lv_at hl 2 rfl) ?_
  refine lv_aload_n hx hb dL_law_2240 rfl (lv_at hl 3 rfl) ?_
  refine lv_iload_n hx hb dL_law_2241 rfl (lv_at hl 0 rfl) ?_
  refine lv_iconst (v := 1) hx hb dL_law_2242 (by decide) ?_
  refine lv_iadd hx hb dL_law_2243 ?_
  refine lv_topi (fun x_1 ex_1 => ?_)
  obtain rfl : x_1 = 1 := ex_1.trans (by decide +kernel)
  refine va_sld hx hb hX hbl hbA hS (xin 1 6 rfl (by decide) (by decide)) dL_law_2244 ?_
  refine W.eq (g2 := F0 m 2245 ls [.int (xs 1), .ref (q 0)]) rfl ?_
  refine lv_aload_n hx hb dL_law_2245 rfl (lv_at hl 3 rfl) ?_
  refine lv_iload_n hx hb dL_law_2246 rfl (lv_at hl 0 rfl) ?_
  refine lv_iconst (v := 2) hx hb dL_law_2247 (by decide) ?_
  refine lv_iadd hx hb dL_law_2248 ?_
  refine lv_topi (fun x_2 ex_2 => ?_)
  obtain rfl : x_2 = 2 := ex_2.trans (by decide +kernel)
  refine va_sld hx hb hX hbl hbA hS (xin 2 6 rfl (by decide) (by decide)) dL_law_2249 ?_
  refine W.eq (g2 := F0 m 2250 ls [.int (xs 2), .int (xs 1), .ref (q 0)]) rfl ?_
  refine lv_aload_n hx hb dL_law_2250 rfl (lv_at hl 3 rfl) ?_
  refine lv_iload_n hx hb dL_law_2251 rfl (lv_at hl 0 rfl) ?_
  refine lv_iconst (v := 3) hx hb dL_law_2252 (by decide) ?_
  refine lv_iadd hx hb dL_law_2253 ?_
  refine lv_topi (fun x_3 ex_3 => ?_)
  obtain rfl : x_3 = 3 := ex_3.trans (by decide +kernel)
  refine va_sld hx hb hX hbl hbA hS (xin 3 6 rfl (by decide) (by decide)) dL_law_2254 ?_
  refine W.eq (g2 := F0 m 2255 ls [.int (xs 3), .int (xs 2), .int (xs 1), .ref (q 0)]) rfl ?_
  refine lv_aload_n hx hb dL_law_2255 rfl (lv_at hl 3 rfl) ?_
  refine lv_iload_n hx hb dL_law_2256 rfl (lv_at hl 0 rfl) ?_
  refine lv_iconst (v := 4) hx hb dL_law_2257 (by decide) ?_
  refine lv_iadd hx hb dL_law_2258 ?_
  refine lv_topi (fun x_4 ex_4 => ?_)
  obtain rfl : x_4 = 4 := ex_4.trans (by decide +kernel)
  refine va_sld hx hb hX hbl hbA hS (xin 4 6 rfl (by decide) (by decide)) dL_law_2259 ?_
  refine W.eq (g2 := F0 m 2260 ls [.int (xs 4), .int (xs 3), .int (xs 2), .int (xs 1), .ref (q 0)]) rfl ?_
  refine CWV (As := [.int (xs 1), .int (xs 2), .int (xs 3), .int (xs 4)]) (rest := []) (wc := [((q 0), .inr (11, [.ref (q 1), .ref (q 2), .ref (q 3), .ref (q 4), .ref (q 5), .ref (q 6), .ref (q 7), .ref (q 8), .ref (q 9), .ref (q 10), .ref (q 11), .int 0, .int 0, .int 0, .long 0, .long 1])), ((q 2), .inr (8, [.ref (q 20), .ref (q 21), .ref (q 22)])), ((q 20), .inr (5, [.ref (q 23), .ref (q 24), .ref (q 25), .int 0, .int 0, .int 0, .int 0])), ((q 21), .inr (0, [.ref (q 26), .ref (q 27), .ref (q 28), .ref (q 29), .int 0, .int 0]))]) (wr := [((q 200), .inr (12, [.ref (q 201), .ref (q 202), .int 0, .long 0, .long 1, .ref (q 203), .ref (q 204), .ref (q 205), .ref (q 206), .ref (q 207), .int 0, .int 0, .int 0, .int 0, .int 0, .int 0, .int (-1), .int (-1), .int 0, .int 0, .int 0, .ref (q 208), .int 0, .int 0, .ref (q 209), .ref (q 210), .ref (q 211), .ref (q 212), .ref (q 213), .int 0, .int 0, .ref (q 214), .ref (q 215), .ref (q 216), .int 0, .int 0])), ((q 201), .inl (k 1, 5340, .inl at0))]) hx hb hml hown hts hKK hP hD hS hA (p_cheap l D k q (xs 1) (xs 2) (xs 3) (xs 4)) ci_X11_cheap qm_L_242 ⟨Nat.le_of_ble_eq_true rfl, Nat.le_of_ble_eq_true rfl⟩ ⟨Nat.le_of_ble_eq_true rfl, Nat.le_of_ble_eq_true rfl⟩ [0, 11, 12, 16] [66, 67] rfl rfl rfl rfl rfl (by decide) 0 rfl rfl rfl hl.1 rfl (Nat.le_of_ble_eq_true rfl) dL_law_2260 (fun u_5 H locs hφ hP hD hS => ?_)
  have hP : va_P D vwCl [((q 200), .inr (12, [.ref (q 201), .ref (q 202), .int 0, .long 0, .long 1, .ref (q 203), .ref (q 204), .ref (q 205), .ref (q 206), .ref (q 207), .int 0, .int 0, .int 0, .int 0, .int 0, .int 0, .int (-1), .int (-1), .int 0, .int 0, .int 0, .ref (q 208), .int 0, .int 0, .ref (q 209), .ref (q 210), .ref (q 211), .ref (q 212), .ref (q 213), .int 0, .int 0, .ref (q 214), .ref (q 215), .ref (q 216), .int 0, .int 0])), ((q 201), .inl (k 1, 5340, .inl at0))] H := hP
  have hD : va_D A [((q 200), .inr (12, [.ref (q 201), .ref (q 202), .int 0, .long 0, .long 1, .ref (q 203), .ref (q 204), .ref (q 205), .ref (q 206), .ref (q 207), .int 0, .int 0, .int 0, .int 0, .int 0, .int 0, .int (-1), .int (-1), .int 0, .int 0, .int 0, .ref (q 208), .int 0, .int 0, .ref (q 209), .ref (q 210), .ref (q 211), .ref (q 212), .ref (q 213), .int 0, .int 0, .ref (q 214), .ref (q 215), .ref (q 216), .int 0, .int 0])), ((q 201), .inl (k 1, 5340, .inl at0))] := hD
  refine W.eq (g2 := F0 m 2263 ls [.int (-1)]) rfl ?_
  refine lv_aload_n hx hb dL_law_2263 rfl (lv_at hl 1 rfl) ?_
  refine lv_aload_n hx hb dL_law_2264 rfl (lv_at hl 3 rfl) ?_
  refine lv_iload_n hx hb dL_law_2265 rfl (lv_at hl 0 rfl) ?_
  refine lv_iconst (v := 1) hx hb dL_law_2266 (by decide) ?_
  refine lv_iadd hx hb dL_law_2267 ?_
  refine lv_topi (fun x_6 ex_6 => ?_)
  obtain rfl : x_6 = 1 := ex_6.trans (by decide +kernel)
  refine va_sld hx hb hX hbl hbA hS (xin 1 6 rfl (by decide) (by decide)) dL_law_2268 ?_
  refine W.eq (g2 := F0 m 2269 ls [.int (xs 1), .ref (q 200), .int (-1)]) rfl ?_
  refine lv_aload_n hx hb dL_law_2269 rfl (lv_at hl 3 rfl) ?_
  refine lv_iload_n hx hb dL_law_2270 rfl (lv_at hl 0 rfl) ?_
  refine lv_iconst (v := 2) hx hb dL_law_2271 (by decide) ?_
  refine lv_iadd hx hb dL_law_2272 ?_
  refine lv_topi (fun x_7 ex_7 => ?_)
  obtain rfl : x_7 = 2 := ex_7.trans (by decide +kernel)
  refine va_sld hx hb hX hbl hbA hS (xin 2 6 rfl (by decide) (by decide)) dL_law_2273 ?_
  refine W.eq (g2 := F0 m 2274 ls [.int (xs 2), .int (xs 1), .ref (q 200), .int (-1)]) rfl ?_
  refine lv_aload_n hx hb dL_law_2274 rfl (lv_at hl 3 rfl) ?_
  refine lv_iload_n hx hb dL_law_2275 rfl (lv_at hl 0 rfl) ?_
  refine lv_iconst (v := 3) hx hb dL_law_2276 (by decide) ?_
  refine lv_iadd hx hb dL_law_2277 ?_
  refine lv_topi (fun x_8 ex_8 => ?_)
  obtain rfl : x_8 = 3 := ex_8.trans (by decide +kernel)
  refine va_sld hx hb hX hbl hbA hS (xin 3 6 rfl (by decide) (by decide)) dL_law_2278 ?_
  refine W.eq (g2 := F0 m 2279 ls [.int (xs 3), .int (xs 2), .int (xs 1), .ref (q 200), .int (-1)]) rfl ?_
  refine lv_aload_n hx hb dL_law_2279 rfl (lv_at hl 3 rfl) ?_
  refine lv_iload_n hx hb dL_law_2280 rfl (lv_at hl 0 rfl) ?_
  refine lv_iconst (v := 4) hx hb dL_law_2281 (by decide) ?_
  refine lv_iadd hx hb dL_law_2282 ?_
  refine lv_topi (fun x_9 ex_9 => ?_)
  obtain rfl : x_9 = 4 := ex_9.trans (by decide +kernel)
  refine va_sld hx hb hX hbl hbA hS (xin 4 6 rfl (by decide) (by decide)) dL_law_2283 ?_
  refine W.eq (g2 := F0 m 2284 ls [.int (xs 4), .int (xs 3), .int (xs 2), .int (xs 1), .ref (q 200), .int (-1)]) rfl ?_
  refine CWV (As := [.int (xs 1), .int (xs 2), .int (xs 3), .int (xs 4)]) (rest := [.int (-1)]) (wc := [((q 200), .inr (12, [.ref (q 201), .ref (q 202), .int 0, .long 0, .long 1, .ref (q 203), .ref (q 204), .ref (q 205), .ref (q 206), .ref (q 207), .int 0, .int 0, .int 0, .int 0, .int 0, .int 0, .int (-1), .int (-1), .int 0, .int 0, .int 0, .ref (q 208), .int 0, .int 0, .ref (q 209), .ref (q 210), .ref (q 211), .ref (q 212), .ref (q 213), .int 0, .int 0, .ref (q 214), .ref (q 215), .ref (q 216), .int 0, .int 0])), ((q 201), .inl (k 1, 5340, .inl at0))]) (wr := []) hx hb hml hown hts hKK hP hD hS hA (r_cheap l D k q (xs 1) (xs 2) (xs 3) (xs 4)) ci_X12_cheap qm_L_245 ⟨Nat.le_of_ble_eq_true rfl, Nat.le_of_ble_eq_true rfl⟩ ⟨Nat.le_of_ble_eq_true rfl, Nat.le_of_ble_eq_true rfl⟩ [0, 1] [] rfl rfl rfl rfl rfl (by decide) 0 rfl rfl rfl hl.1 rfl (Nat.le_of_ble_eq_true rfl) dL_law_2284 (fun u_10 H locs hφ hP hD hS => ?_)
  have hP : va_P D vwCl [] H := hP
  have hD : va_D A [] := hD
  refine W.eq (g2 := F0 m 2287 ls [.int (-1), .int (-1)]) rfl ?_
  refine lv_icmp_eq (tgt := 2849) hx hb dL_law_2287 (by decide) (fun _ => ?_) (fun c => absurd (by decide) c)
  exact law_done hx hb hr hlocks hX hbl hbA hAf hS (by decide) (by decide) hl
set_option maxHeartbeats 4000000 in
set_option maxRecDepth 100000 in
theorem law_c55 {p : Program} {e : Env} {s : State} {m : MethodId} {below : List Frame} {meth : Method} {c : Code} (l : Launch) {b : Nat} {xs : Nat → Int32} {A : Nat → Prop} {D : va_G} {k : Nat → ClassId} {q : Nat → Nat} {H : Heap} {locs : List Loc} {ls : Array Slot} (C : LC p s m meth c b xs A D k q H locs ls) : W p l e room_1 s m #[Value.ref b] below meth c H locs 123 16705 (lw_Z below #[Value.ref b] s) (F0 m 2292 ls []) := by
  obtain ⟨hx, hb, hr, hml, hown, hts, hKK, hX, hbl, hbA, hA, hAf, hlocks, hP, hD, hS, hl⟩ := C
  refine lv_aload_n hx hb dL_law_2292 rfl (lv_at hl 2 rfl) ?_
  refine lv_aload_n hx hb dL_law_2293 rfl (lv_at hl 3 rfl) ?_
  refine lv_iload_n hx hb dL_law_2294 rfl (lv_at hl 0 rfl) ?_
  refine lv_iconst (v := 1) hx hb dL_law_2295 (by decide) ?_
  refine lv_iadd hx hb dL_law_2296 ?_
  refine lv_topi (fun x_1 ex_1 => ?_)
  obtain rfl : x_1 = 1 := ex_1.trans (by decide +kernel)
  refine va_sld hx hb hX hbl hbA hS (xin 1 6 rfl (by decide) (by decide)) dL_law_2297 ?_
  refine W.eq (g2 := F0 m 2298 ls [.int (xs 1), .ref (q 0)]) rfl ?_
  refine lv_aload_n hx hb dL_law_2298 rfl (lv_at hl 3 rfl) ?_
  refine lv_iload_n hx hb dL_law_2299 rfl (lv_at hl 0 rfl) ?_
  refine lv_iconst (v := 2) hx hb dL_law_2300 (by decide) ?_
  refine lv_iadd hx hb dL_law_2301 ?_
  refine lv_topi (fun x_2 ex_2 => ?_)
  obtain rfl : x_2 = 2 := ex_2.trans (by decide +kernel)
  refine va_sld hx hb hX hbl hbA hS (xin 2 6 rfl (by decide) (by decide)) dL_law_2302 ?_
  refine W.eq (g2 := F0 m 2303 ls [.int (xs 2), .int (xs 1), .ref (q 0)]) rfl ?_
  refine CWV (As := [.int (xs 1), .int (xs 2)]) (rest := []) (wc := [((q 0), .inr (11, [.ref (q 1), .ref (q 2), .ref (q 3), .ref (q 4), .ref (q 5), .ref (q 6), .ref (q 7), .ref (q 8), .ref (q 9), .ref (q 10), .ref (q 11), .int 0, .int 0, .int 0, .long 0, .long 1])), ((q 2), .inr (8, [.ref (q 20), .ref (q 21), .ref (q 22)])), ((q 20), .inr (5, [.ref (q 23), .ref (q 24), .ref (q 25), .int 0, .int 0, .int 0, .int 0])), ((q 21), .inr (0, [.ref (q 26), .ref (q 27), .ref (q 28), .ref (q 29), .int 0, .int 0]))]) (wr := [((q 200), .inr (12, [.ref (q 201), .ref (q 202), .int 0, .long 0, .long 1, .ref (q 203), .ref (q 204), .ref (q 205), .ref (q 206), .ref (q 207), .int 0, .int 0, .int 0, .int 0, .int 0, .int 0, .int (-1), .int (-1), .int 0, .int 0, .int 0, .ref (q 208), .int 0, .int 0, .ref (q 209), .ref (q 210), .ref (q 211), .ref (q 212), .ref (q 213), .int 0, .int 0, .ref (q 214), .ref (q 215), .ref (q 216), .int 0, .int 0])), ((q 201), .inl (k 1, 5340, .inl at0))]) hx hb hml hown hts hKK hP hD hS hA (p_price l D k q (xs 1) (xs 2)) ci_X11_price qm_L_246 ⟨Nat.le_of_ble_eq_true rfl, Nat.le_of_ble_eq_true rfl⟩ ⟨Nat.le_of_ble_eq_true rfl, Nat.le_of_ble_eq_true rfl⟩ [0, 11, 12, 16] [66, 67] rfl rfl rfl rfl rfl (by decide) 0 rfl rfl rfl hl.1 rfl (Nat.le_of_ble_eq_true rfl) dL_law_2303 (fun u_3 H locs hφ hP hD hS => ?_)
  have hP : va_P D vwCl [((q 200), .inr (12, [.ref (q 201), .ref (q 202), .int 0, .long 0, .long 1, .ref (q 203), .ref (q 204), .ref (q 205), .ref (q 206), .ref (q 207), .int 0, .int 0, .int 0, .int 0, .int 0, .int 0, .int (-1), .int (-1), .int 0, .int 0, .int 0, .ref (q 208), .int 0, .int 0, .ref (q 209), .ref (q 210), .ref (q 211), .ref (q 212), .ref (q 213), .int 0, .int 0, .ref (q 214), .ref (q 215), .ref (q 216), .int 0, .int 0])), ((q 201), .inl (k 1, 5340, .inl at0))] H := hP
  have hD : va_D A [((q 200), .inr (12, [.ref (q 201), .ref (q 202), .int 0, .long 0, .long 1, .ref (q 203), .ref (q 204), .ref (q 205), .ref (q 206), .ref (q 207), .int 0, .int 0, .int 0, .int 0, .int 0, .int 0, .int (-1), .int (-1), .int 0, .int 0, .int 0, .ref (q 208), .int 0, .int 0, .ref (q 209), .ref (q 210), .ref (q 211), .ref (q 212), .ref (q 213), .int 0, .int 0, .ref (q 214), .ref (q 215), .ref (q 216), .int 0, .int 0])), ((q 201), .inl (k 1, 5340, .inl at0))] := hD
  refine W.eq (g2 := F0 m 2306 ls [.int (-1)]) rfl ?_
  refine lv_aload_n hx hb dL_law_2306 rfl (lv_at hl 1 rfl) ?_
  refine lv_aload_n hx hb dL_law_2307 rfl (lv_at hl 3 rfl) ?_
  refine lv_iload_n hx hb dL_law_2308 rfl (lv_at hl 0 rfl) ?_
  refine lv_iconst (v := 1) hx hb dL_law_2309 (by decide) ?_
  refine lv_iadd hx hb dL_law_2310 ?_
  refine lv_topi (fun x_4 ex_4 => ?_)
  obtain rfl : x_4 = 1 := ex_4.trans (by decide +kernel)
  refine va_sld hx hb hX hbl hbA hS (xin 1 6 rfl (by decide) (by decide)) dL_law_2311 ?_
  refine W.eq (g2 := F0 m 2312 ls [.int (xs 1), .ref (q 200), .int (-1)]) rfl ?_
  refine lv_aload_n hx hb dL_law_2312 rfl (lv_at hl 3 rfl) ?_
  refine lv_iload_n hx hb dL_law_2313 rfl (lv_at hl 0 rfl) ?_
  refine lv_iconst (v := 2) hx hb dL_law_2314 (by decide) ?_
  refine lv_iadd hx hb dL_law_2315 ?_
  refine lv_topi (fun x_5 ex_5 => ?_)
  obtain rfl : x_5 = 2 := ex_5.trans (by decide +kernel)
  refine va_sld hx hb hX hbl hbA hS (xin 2 6 rfl (by decide) (by decide)) dL_law_2316 ?_
  refine W.eq (g2 := F0 m 2317 ls [.int (xs 2), .int (xs 1), .ref (q 200), .int (-1)]) rfl ?_
  refine CWV (As := [.int (xs 1), .int (xs 2)]) (rest := [.int (-1)]) (wc := [((q 200), .inr (12, [.ref (q 201), .ref (q 202), .int 0, .long 0, .long 1, .ref (q 203), .ref (q 204), .ref (q 205), .ref (q 206), .ref (q 207), .int 0, .int 0, .int 0, .int 0, .int 0, .int 0, .int (-1), .int (-1), .int 0, .int 0, .int 0, .ref (q 208), .int 0, .int 0, .ref (q 209), .ref (q 210), .ref (q 211), .ref (q 212), .ref (q 213), .int 0, .int 0, .ref (q 214), .ref (q 215), .ref (q 216), .int 0, .int 0])), ((q 201), .inl (k 1, 5340, .inl at0))]) (wr := []) hx hb hml hown hts hKK hP hD hS hA (r_price l D k q (xs 1) (xs 2)) ci_X12_price qm_L_249 ⟨Nat.le_of_ble_eq_true rfl, Nat.le_of_ble_eq_true rfl⟩ ⟨Nat.le_of_ble_eq_true rfl, Nat.le_of_ble_eq_true rfl⟩ [0, 1] [] rfl rfl rfl rfl rfl (by decide) 0 rfl rfl rfl hl.1 rfl (Nat.le_of_ble_eq_true rfl) dL_law_2317 (fun u_6 H locs hφ hP hD hS => ?_)
  have hP : va_P D vwCl [] H := hP
  have hD : va_D A [] := hD
  refine W.eq (g2 := F0 m 2320 ls [.int (-1), .int (-1)]) rfl ?_
  refine lv_icmp_eq (tgt := 2849) hx hb dL_law_2320 (by decide) (fun _ => ?_) (fun c => absurd (by decide) c)
  exact law_done hx hb hr hlocks hX hbl hbA hAf hS (by decide) (by decide) hl
set_option maxHeartbeats 4000000 in
set_option maxRecDepth 100000 in
theorem law_c56 {p : Program} {e : Env} {s : State} {m : MethodId} {below : List Frame} {meth : Method} {c : Code} (l : Launch) {b : Nat} {xs : Nat → Int32} {A : Nat → Prop} {D : va_G} {k : Nat → ClassId} {q : Nat → Nat} {H : Heap} {locs : List Loc} {ls : Array Slot} (C : LC p s m meth c b xs A D k q H locs ls) : W p l e room_1 s m #[Value.ref b] below meth c H locs 123 16705 (lw_Z below #[Value.ref b] s) (F0 m 2325 ls []) := by
  obtain ⟨hx, hb, hr, hml, hown, hts, hKK, hX, hbl, hbA, hA, hAf, hlocks, hP, hD, hS, hl⟩ := C
  refine lv_aload_n hx hb dL_law_2325 rfl (lv_at hl 2 rfl) ?_
  refine lv_aload_n hx hb dL_law_2326 rfl (lv_at hl 3 rfl) ?_
  refine lv_iload_n hx hb dL_law_2327 rfl (lv_at hl 0 rfl) ?_
  refine lv_iconst (v := 1) hx hb dL_law_2328 (by decide) ?_
  refine lv_iadd hx hb dL_law_2329 ?_
  refine lv_topi (fun x_1 ex_1 => ?_)
  obtain rfl : x_1 = 1 := ex_1.trans (by decide +kernel)
  refine va_sld hx hb hX hbl hbA hS (xin 1 6 rfl (by decide) (by decide)) dL_law_2330 ?_
  refine W.eq (g2 := F0 m 2331 ls [.int (xs 1), .ref (q 0)]) rfl ?_
  refine lv_aload_n hx hb dL_law_2331 rfl (lv_at hl 3 rfl) ?_
  refine lv_iload_n hx hb dL_law_2332 rfl (lv_at hl 0 rfl) ?_
  refine lv_iconst (v := 2) hx hb dL_law_2333 (by decide) ?_
  refine lv_iadd hx hb dL_law_2334 ?_
  refine lv_topi (fun x_2 ex_2 => ?_)
  obtain rfl : x_2 = 2 := ex_2.trans (by decide +kernel)
  refine va_sld hx hb hX hbl hbA hS (xin 2 6 rfl (by decide) (by decide)) dL_law_2335 ?_
  refine W.eq (g2 := F0 m 2336 ls [.int (xs 2), .int (xs 1), .ref (q 0)]) rfl ?_
  refine lv_aload_n hx hb dL_law_2336 rfl (lv_at hl 3 rfl) ?_
  refine lv_iload_n hx hb dL_law_2337 rfl (lv_at hl 0 rfl) ?_
  refine lv_iconst (v := 3) hx hb dL_law_2338 (by decide) ?_
  refine lv_iadd hx hb dL_law_2339 ?_
  refine lv_topi (fun x_3 ex_3 => ?_)
  obtain rfl : x_3 = 3 := ex_3.trans (by decide +kernel)
  refine va_sld hx hb hX hbl hbA hS (xin 3 6 rfl (by decide) (by decide)) dL_law_2340 ?_
  refine W.eq (g2 := F0 m 2341 ls [.int (xs 3), .int (xs 2), .int (xs 1), .ref (q 0)]) rfl ?_
  refine CWV (As := [.int (xs 1), .int (xs 2), .int (xs 3)]) (rest := []) (wc := [((q 0), .inr (11, [.ref (q 1), .ref (q 2), .ref (q 3), .ref (q 4), .ref (q 5), .ref (q 6), .ref (q 7), .ref (q 8), .ref (q 9), .ref (q 10), .ref (q 11), .int 0, .int 0, .int 0, .long 0, .long 1])), ((q 2), .inr (8, [.ref (q 20), .ref (q 21), .ref (q 22)])), ((q 20), .inr (5, [.ref (q 23), .ref (q 24), .ref (q 25), .int 0, .int 0, .int 0, .int 0])), ((q 21), .inr (0, [.ref (q 26), .ref (q 27), .ref (q 28), .ref (q 29), .int 0, .int 0]))]) (wr := [((q 200), .inr (12, [.ref (q 201), .ref (q 202), .int 0, .long 0, .long 1, .ref (q 203), .ref (q 204), .ref (q 205), .ref (q 206), .ref (q 207), .int 0, .int 0, .int 0, .int 0, .int 0, .int 0, .int (-1), .int (-1), .int 0, .int 0, .int 0, .ref (q 208), .int 0, .int 0, .ref (q 209), .ref (q 210), .ref (q 211), .ref (q 212), .ref (q 213), .int 0, .int 0, .ref (q 214), .ref (q 215), .ref (q 216), .int 0, .int 0])), ((q 201), .inl (k 1, 5340, .inl at0))]) hx hb hml hown hts hKK hP hD hS hA (p_priceSeen l D k q (xs 1) (xs 2) (xs 3)) ci_X11_priceSeen qm_L_250 ⟨Nat.le_of_ble_eq_true rfl, Nat.le_of_ble_eq_true rfl⟩ ⟨Nat.le_of_ble_eq_true rfl, Nat.le_of_ble_eq_true rfl⟩ [0, 11, 12, 16] [66, 67] rfl rfl rfl rfl rfl (by decide) 0 rfl rfl rfl hl.1 rfl (Nat.le_of_ble_eq_true rfl) dL_law_2341 (fun u_4 H locs hφ hP hD hS => ?_)
  have hP : va_P D vwCl [((q 200), .inr (12, [.ref (q 201), .ref (q 202), .int 0, .long 0, .long 1, .ref (q 203), .ref (q 204), .ref (q 205), .ref (q 206), .ref (q 207), .int 0, .int 0, .int 0, .int 0, .int 0, .int 0, .int (-1), .int (-1), .int 0, .int 0, .int 0, .ref (q 208), .int 0, .int 0, .ref (q 209), .ref (q 210), .ref (q 211), .ref (q 212), .ref (q 213), .int 0, .int 0, .ref (q 214), .ref (q 215), .ref (q 216), .int 0, .int 0])), ((q 201), .inl (k 1, 5340, .inl at0))] H := hP
  have hD : va_D A [((q 200), .inr (12, [.ref (q 201), .ref (q 202), .int 0, .long 0, .long 1, .ref (q 203), .ref (q 204), .ref (q 205), .ref (q 206), .ref (q 207), .int 0, .int 0, .int 0, .int 0, .int 0, .int 0, .int (-1), .int (-1), .int 0, .int 0, .int 0, .ref (q 208), .int 0, .int 0, .ref (q 209), .ref (q 210), .ref (q 211), .ref (q 212), .ref (q 213), .int 0, .int 0, .ref (q 214), .ref (q 215), .ref (q 216), .int 0, .int 0])), ((q 201), .inl (k 1, 5340, .inl at0))] := hD
  refine W.eq (g2 := F0 m 2344 ls [.int (-1)]) rfl ?_
  refine lv_aload_n hx hb dL_law_2344 rfl (lv_at hl 1 rfl) ?_
  refine lv_aload_n hx hb dL_law_2345 rfl (lv_at hl 3 rfl) ?_
  refine lv_iload_n hx hb dL_law_2346 rfl (lv_at hl 0 rfl) ?_
  refine lv_iconst (v := 1) hx hb dL_law_2347 (by decide) ?_
  refine lv_iadd hx hb dL_law_2348 ?_
  refine lv_topi (fun x_5 ex_5 => ?_)
  obtain rfl : x_5 = 1 := ex_5.trans (by decide +kernel)
  refine va_sld hx hb hX hbl hbA hS (xin 1 6 rfl (by decide) (by decide)) dL_law_2349 ?_
  refine W.eq (g2 := F0 m 2350 ls [.int (xs 1), .ref (q 200), .int (-1)]) rfl ?_
  refine lv_aload_n hx hb dL_law_2350 rfl (lv_at hl 3 rfl) ?_
  refine lv_iload_n hx hb dL_law_2351 rfl (lv_at hl 0 rfl) ?_
  refine lv_iconst (v := 2) hx hb dL_law_2352 (by decide) ?_
  refine lv_iadd hx hb dL_law_2353 ?_
  refine lv_topi (fun x_6 ex_6 => ?_)
  obtain rfl : x_6 = 2 := ex_6.trans (by decide +kernel)
  refine va_sld hx hb hX hbl hbA hS (xin 2 6 rfl (by decide) (by decide)) dL_law_2354 ?_
  refine W.eq (g2 := F0 m 2355 ls [.int (xs 2), .int (xs 1), .ref (q 200), .int (-1)]) rfl ?_
  refine lv_aload_n hx hb dL_law_2355 rfl (lv_at hl 3 rfl) ?_
  refine lv_iload_n hx hb dL_law_2356 rfl (lv_at hl 0 rfl) ?_
  refine lv_iconst (v := 3) hx hb dL_law_2357 (by decide) ?_
  refine lv_iadd hx hb dL_law_2358 ?_
  refine lv_topi (fun x_7 ex_7 => ?_)
  obtain rfl : x_7 = 3 := ex_7.trans (by decide +kernel)
  refine va_sld hx hb hX hbl hbA hS (xin 3 6 rfl (by decide) (by decide)) dL_law_2359 ?_
  refine W.eq (g2 := F0 m 2360 ls [.int (xs 3), .int (xs 2), .int (xs 1), .ref (q 200), .int (-1)]) rfl ?_
  refine CWV (As := [.int (xs 1), .int (xs 2), .int (xs 3)]) (rest := [.int (-1)]) (wc := [((q 200), .inr (12, [.ref (q 201), .ref (q 202), .int 0, .long 0, .long 1, .ref (q 203), .ref (q 204), .ref (q 205), .ref (q 206), .ref (q 207), .int 0, .int 0, .int 0, .int 0, .int 0, .int 0, .int (-1), .int (-1), .int 0, .int 0, .int 0, .ref (q 208), .int 0, .int 0, .ref (q 209), .ref (q 210), .ref (q 211), .ref (q 212), .ref (q 213), .int 0, .int 0, .ref (q 214), .ref (q 215), .ref (q 216), .int 0, .int 0])), ((q 201), .inl (k 1, 5340, .inl at0))]) (wr := []) hx hb hml hown hts hKK hP hD hS hA (r_priceSeen l D k q (xs 1) (xs 2) (xs 3)) ci_X12_priceSeen qm_L_253 ⟨Nat.le_of_ble_eq_true rfl, Nat.le_of_ble_eq_true rfl⟩ ⟨Nat.le_of_ble_eq_true rfl, Nat.le_of_ble_eq_true rfl⟩ [0, 1] [] rfl rfl rfl rfl rfl (by decide) 0 rfl rfl rfl hl.1 rfl (Nat.le_of_ble_eq_true rfl) dL_law_2360 (fun u_8 H locs hφ hP hD hS => ?_)
  have hP : va_P D vwCl [] H := hP
  have hD : va_D A [] := hD
  refine W.eq (g2 := F0 m 2363 ls [.int (-1), .int (-1)]) rfl ?_
  refine lv_icmp_eq (tgt := 2849) hx hb dL_law_2363 (by decide) (fun _ => ?_) (fun c => absurd (by decide) c)
  exact law_done hx hb hr hlocks hX hbl hbA hAf hS (by decide) (by decide) hl
set_option maxHeartbeats 4000000 in
set_option maxRecDepth 100000 in
theorem law_c57 {p : Program} {e : Env} {s : State} {m : MethodId} {below : List Frame} {meth : Method} {c : Code} (l : Launch) {b : Nat} {xs : Nat → Int32} {A : Nat → Prop} {D : va_G} {k : Nat → ClassId} {q : Nat → Nat} {H : Heap} {locs : List Loc} {ls : Array Slot} (C : LC p s m meth c b xs A D k q H locs ls) : W p l e room_1 s m #[Value.ref b] below meth c H locs 123 16705 (lw_Z below #[Value.ref b] s) (F0 m 2368 ls []) := by
  obtain ⟨hx, hb, hr, hml, hown, hts, hKK, hX, hbl, hbA, hA, hAf, hlocks, hP, hD, hS, hl⟩ := C
  refine lv_aload_n hx hb dL_law_2368 rfl (lv_at hl 2 rfl) ?_
  refine lv_aload_n hx hb dL_law_2369 rfl (lv_at hl 3 rfl) ?_
  refine lv_iload_n hx hb dL_law_2370 rfl (lv_at hl 0 rfl) ?_
  refine lv_iconst (v := 1) hx hb dL_law_2371 (by decide) ?_
  refine lv_iadd hx hb dL_law_2372 ?_
  refine lv_topi (fun x_1 ex_1 => ?_)
  obtain rfl : x_1 = 1 := ex_1.trans (by decide +kernel)
  refine va_sld hx hb hX hbl hbA hS (xin 1 6 rfl (by decide) (by decide)) dL_law_2373 ?_
  refine W.eq (g2 := F0 m 2374 ls [.int (xs 1), .ref (q 0)]) rfl ?_
  refine lv_aload_n hx hb dL_law_2374 rfl (lv_at hl 3 rfl) ?_
  refine lv_iload_n hx hb dL_law_2375 rfl (lv_at hl 0 rfl) ?_
  refine lv_iconst (v := 2) hx hb dL_law_2376 (by decide) ?_
  refine lv_iadd hx hb dL_law_2377 ?_
  refine lv_topi (fun x_2 ex_2 => ?_)
  obtain rfl : x_2 = 2 := ex_2.trans (by decide +kernel)
  refine va_sld hx hb hX hbl hbA hS (xin 2 6 rfl (by decide) (by decide)) dL_law_2378 ?_
  refine W.eq (g2 := F0 m 2379 ls [.int (xs 2), .int (xs 1), .ref (q 0)]) rfl ?_
  refine lv_aload_n hx hb dL_law_2379 rfl (lv_at hl 3 rfl) ?_
  refine lv_iload_n hx hb dL_law_2380 rfl (lv_at hl 0 rfl) ?_
  refine lv_iconst (v := 3) hx hb dL_law_2381 (by decide) ?_
  refine lv_iadd hx hb dL_law_2382 ?_
  refine lv_topi (fun x_3 ex_3 => ?_)
  obtain rfl : x_3 = 3 := ex_3.trans (by decide +kernel)
  refine va_sld hx hb hX hbl hbA hS (xin 3 6 rfl (by decide) (by decide)) dL_law_2383 ?_
  refine W.eq (g2 := F0 m 2384 ls [.int (xs 3), .int (xs 2), .int (xs 1), .ref (q 0)]) rfl ?_
  refine CWV (As := [.int (xs 1), .int (xs 2), .int (xs 3)]) (rest := []) (wc := [((q 0), .inr (11, [.ref (q 1), .ref (q 2), .ref (q 3), .ref (q 4), .ref (q 5), .ref (q 6), .ref (q 7), .ref (q 8), .ref (q 9), .ref (q 10), .ref (q 11), .int 0, .int 0, .int 0, .long 0, .long 1])), ((q 2), .inr (8, [.ref (q 20), .ref (q 21), .ref (q 22)])), ((q 20), .inr (5, [.ref (q 23), .ref (q 24), .ref (q 25), .int 0, .int 0, .int 0, .int 0])), ((q 21), .inr (0, [.ref (q 26), .ref (q 27), .ref (q 28), .ref (q 29), .int 0, .int 0]))]) (wr := [((q 200), .inr (12, [.ref (q 201), .ref (q 202), .int 0, .long 0, .long 1, .ref (q 203), .ref (q 204), .ref (q 205), .ref (q 206), .ref (q 207), .int 0, .int 0, .int 0, .int 0, .int 0, .int 0, .int (-1), .int (-1), .int 0, .int 0, .int 0, .ref (q 208), .int 0, .int 0, .ref (q 209), .ref (q 210), .ref (q 211), .ref (q 212), .ref (q 213), .int 0, .int 0, .ref (q 214), .ref (q 215), .ref (q 216), .int 0, .int 0])), ((q 201), .inl (k 1, 5340, .inl at0))]) hx hb hml hown hts hKK hP hD hS hA (p_gain l D k q (xs 1) (xs 2) (xs 3)) ci_X11_gain qm_L_254 ⟨Nat.le_of_ble_eq_true rfl, Nat.le_of_ble_eq_true rfl⟩ ⟨Nat.le_of_ble_eq_true rfl, Nat.le_of_ble_eq_true rfl⟩ [0, 11, 12, 16] [66, 67] rfl rfl rfl rfl rfl (by decide) 0 rfl rfl rfl hl.1 rfl (Nat.le_of_ble_eq_true rfl) dL_law_2384 (fun u_4 H locs hφ hP hD hS => ?_)
  have hP : va_P D vwCl [((q 200), .inr (12, [.ref (q 201), .ref (q 202), .int 0, .long 0, .long 1, .ref (q 203), .ref (q 204), .ref (q 205), .ref (q 206), .ref (q 207), .int 0, .int 0, .int 0, .int 0, .int 0, .int 0, .int (-1), .int (-1), .int 0, .int 0, .int 0, .ref (q 208), .int 0, .int 0, .ref (q 209), .ref (q 210), .ref (q 211), .ref (q 212), .ref (q 213), .int 0, .int 0, .ref (q 214), .ref (q 215), .ref (q 216), .int 0, .int 0])), ((q 201), .inl (k 1, 5340, .inl at0))] H := hP
  have hD : va_D A [((q 200), .inr (12, [.ref (q 201), .ref (q 202), .int 0, .long 0, .long 1, .ref (q 203), .ref (q 204), .ref (q 205), .ref (q 206), .ref (q 207), .int 0, .int 0, .int 0, .int 0, .int 0, .int 0, .int (-1), .int (-1), .int 0, .int 0, .int 0, .ref (q 208), .int 0, .int 0, .ref (q 209), .ref (q 210), .ref (q 211), .ref (q 212), .ref (q 213), .int 0, .int 0, .ref (q 214), .ref (q 215), .ref (q 216), .int 0, .int 0])), ((q 201), .inl (k 1, 5340, .inl at0))] := hD
  refine W.eq (g2 := F0 m 2387 ls [.int (-1)]) rfl ?_
  refine lv_aload_n hx hb dL_law_2387 rfl (lv_at hl 1 rfl) ?_
  refine lv_aload_n hx hb dL_law_2388 rfl (lv_at hl 3 rfl) ?_
  refine lv_iload_n hx hb dL_law_2389 rfl (lv_at hl 0 rfl) ?_
  refine lv_iconst (v := 1) hx hb dL_law_2390 (by decide) ?_
  refine lv_iadd hx hb dL_law_2391 ?_
  refine lv_topi (fun x_5 ex_5 => ?_)
  obtain rfl : x_5 = 1 := ex_5.trans (by decide +kernel)
  refine va_sld hx hb hX hbl hbA hS (xin 1 6 rfl (by decide) (by decide)) dL_law_2392 ?_
  refine W.eq (g2 := F0 m 2393 ls [.int (xs 1), .ref (q 200), .int (-1)]) rfl ?_
  refine lv_aload_n hx hb dL_law_2393 rfl (lv_at hl 3 rfl) ?_
  refine lv_iload_n hx hb dL_law_2394 rfl (lv_at hl 0 rfl) ?_
  refine lv_iconst (v := 2) hx hb dL_law_2395 (by decide) ?_
  refine lv_iadd hx hb dL_law_2396 ?_
  refine lv_topi (fun x_6 ex_6 => ?_)
  obtain rfl : x_6 = 2 := ex_6.trans (by decide +kernel)
  refine va_sld hx hb hX hbl hbA hS (xin 2 6 rfl (by decide) (by decide)) dL_law_2397 ?_
  refine W.eq (g2 := F0 m 2398 ls [.int (xs 2), .int (xs 1), .ref (q 200), .int (-1)]) rfl ?_
  refine lv_aload_n hx hb dL_law_2398 rfl (lv_at hl 3 rfl) ?_
  refine lv_iload_n hx hb dL_law_2399 rfl (lv_at hl 0 rfl) ?_
  refine lv_iconst (v := 3) hx hb dL_law_2400 (by decide) ?_
  refine lv_iadd hx hb dL_law_2401 ?_
  refine lv_topi (fun x_7 ex_7 => ?_)
  obtain rfl : x_7 = 3 := ex_7.trans (by decide +kernel)
  refine va_sld hx hb hX hbl hbA hS (xin 3 6 rfl (by decide) (by decide)) dL_law_2402 ?_
  refine W.eq (g2 := F0 m 2403 ls [.int (xs 3), .int (xs 2), .int (xs 1), .ref (q 200), .int (-1)]) rfl ?_
  refine CWV (As := [.int (xs 1), .int (xs 2), .int (xs 3)]) (rest := [.int (-1)]) (wc := [((q 200), .inr (12, [.ref (q 201), .ref (q 202), .int 0, .long 0, .long 1, .ref (q 203), .ref (q 204), .ref (q 205), .ref (q 206), .ref (q 207), .int 0, .int 0, .int 0, .int 0, .int 0, .int 0, .int (-1), .int (-1), .int 0, .int 0, .int 0, .ref (q 208), .int 0, .int 0, .ref (q 209), .ref (q 210), .ref (q 211), .ref (q 212), .ref (q 213), .int 0, .int 0, .ref (q 214), .ref (q 215), .ref (q 216), .int 0, .int 0])), ((q 201), .inl (k 1, 5340, .inl at0))]) (wr := []) hx hb hml hown hts hKK hP hD hS hA (r_gain l D k q (xs 1) (xs 2) (xs 3)) ci_X12_gain qm_L_257 ⟨Nat.le_of_ble_eq_true rfl, Nat.le_of_ble_eq_true rfl⟩ ⟨Nat.le_of_ble_eq_true rfl, Nat.le_of_ble_eq_true rfl⟩ [0, 1] [] rfl rfl rfl rfl rfl (by decide) 0 rfl rfl rfl hl.1 rfl (Nat.le_of_ble_eq_true rfl) dL_law_2403 (fun u_8 H locs hφ hP hD hS => ?_)
  have hP : va_P D vwCl [] H := hP
  have hD : va_D A [] := hD
  refine W.eq (g2 := F0 m 2406 ls [.int (-1), .int (-1)]) rfl ?_
  refine lv_icmp_eq (tgt := 2849) hx hb dL_law_2406 (by decide) (fun _ => ?_) (fun c => absurd (by decide) c)
  exact law_done hx hb hr hlocks hX hbl hbA hAf hS (by decide) (by decide) hl
set_option maxHeartbeats 4000000 in
set_option maxRecDepth 100000 in
theorem law_c58 {p : Program} {e : Env} {s : State} {m : MethodId} {below : List Frame} {meth : Method} {c : Code} (l : Launch) {b : Nat} {xs : Nat → Int32} {A : Nat → Prop} {D : va_G} {k : Nat → ClassId} {q : Nat → Nat} {H : Heap} {locs : List Loc} {ls : Array Slot} (C : LC p s m meth c b xs A D k q H locs ls) : W p l e room_1 s m #[Value.ref b] below meth c H locs 123 16705 (lw_Z below #[Value.ref b] s) (F0 m 2411 ls []) := by
  obtain ⟨hx, hb, hr, hml, hown, hts, hKK, hX, hbl, hbA, hA, hAf, hlocks, hP, hD, hS, hl⟩ := C
  refine lv_aload_n hx hb dL_law_2411 rfl (lv_at hl 2 rfl) ?_
  refine lv_aload_n hx hb dL_law_2412 rfl (lv_at hl 3 rfl) ?_
  refine lv_iload_n hx hb dL_law_2413 rfl (lv_at hl 0 rfl) ?_
  refine lv_iconst (v := 1) hx hb dL_law_2414 (by decide) ?_
  refine lv_iadd hx hb dL_law_2415 ?_
  refine lv_topi (fun x_1 ex_1 => ?_)
  obtain rfl : x_1 = 1 := ex_1.trans (by decide +kernel)
  refine va_sld hx hb hX hbl hbA hS (xin 1 6 rfl (by decide) (by decide)) dL_law_2416 ?_
  refine W.eq (g2 := F0 m 2417 ls [.int (xs 1), .ref (q 0)]) rfl ?_
  refine lv_aload_n hx hb dL_law_2417 rfl (lv_at hl 3 rfl) ?_
  refine lv_iload_n hx hb dL_law_2418 rfl (lv_at hl 0 rfl) ?_
  refine lv_iconst (v := 2) hx hb dL_law_2419 (by decide) ?_
  refine lv_iadd hx hb dL_law_2420 ?_
  refine lv_topi (fun x_2 ex_2 => ?_)
  obtain rfl : x_2 = 2 := ex_2.trans (by decide +kernel)
  refine va_sld hx hb hX hbl hbA hS (xin 2 6 rfl (by decide) (by decide)) dL_law_2421 ?_
  refine W.eq (g2 := F0 m 2422 ls [.int (xs 2), .int (xs 1), .ref (q 0)]) rfl ?_
  refine lv_aload_n hx hb dL_law_2422 rfl (lv_at hl 3 rfl) ?_
  refine lv_iload_n hx hb dL_law_2423 rfl (lv_at hl 0 rfl) ?_
  refine lv_iconst (v := 3) hx hb dL_law_2424 (by decide) ?_
  refine lv_iadd hx hb dL_law_2425 ?_
  refine lv_topi (fun x_3 ex_3 => ?_)
  obtain rfl : x_3 = 3 := ex_3.trans (by decide +kernel)
  refine va_sld hx hb hX hbl hbA hS (xin 3 6 rfl (by decide) (by decide)) dL_law_2426 ?_
  refine W.eq (g2 := F0 m 2427 ls [.int (xs 3), .int (xs 2), .int (xs 1), .ref (q 0)]) rfl ?_
  refine CWV (As := [.int (xs 1), .int (xs 2), .int (xs 3)]) (rest := []) (wc := [((q 0), .inr (11, [.ref (q 1), .ref (q 2), .ref (q 3), .ref (q 4), .ref (q 5), .ref (q 6), .ref (q 7), .ref (q 8), .ref (q 9), .ref (q 10), .ref (q 11), .int 0, .int 0, .int 0, .long 0, .long 1])), ((q 2), .inr (8, [.ref (q 20), .ref (q 21), .ref (q 22)])), ((q 20), .inr (5, [.ref (q 23), .ref (q 24), .ref (q 25), .int 0, .int 0, .int 0, .int 0])), ((q 21), .inr (0, [.ref (q 26), .ref (q 27), .ref (q 28), .ref (q 29), .int 0, .int 0]))]) (wr := [((q 200), .inr (12, [.ref (q 201), .ref (q 202), .int 0, .long 0, .long 1, .ref (q 203), .ref (q 204), .ref (q 205), .ref (q 206), .ref (q 207), .int 0, .int 0, .int 0, .int 0, .int 0, .int 0, .int (-1), .int (-1), .int 0, .int 0, .int 0, .ref (q 208), .int 0, .int 0, .ref (q 209), .ref (q 210), .ref (q 211), .ref (q 212), .ref (q 213), .int 0, .int 0, .ref (q 214), .ref (q 215), .ref (q 216), .int 0, .int 0])), ((q 201), .inl (k 1, 5340, .inl at0))]) hx hb hml hown hts hKK hP hD hS hA (p_hoped l D k q (xs 1) (xs 2) (xs 3)) ci_X11_hoped qm_L_258 ⟨Nat.le_of_ble_eq_true rfl, Nat.le_of_ble_eq_true rfl⟩ ⟨Nat.le_of_ble_eq_true rfl, Nat.le_of_ble_eq_true rfl⟩ [0, 11, 12, 16] [66, 67] rfl rfl rfl rfl rfl (by decide) 0 rfl rfl rfl hl.1 rfl (Nat.le_of_ble_eq_true rfl) dL_law_2427 (fun u_4 H locs hφ hP hD hS => ?_)
  have hP : va_P D vwCl [((q 200), .inr (12, [.ref (q 201), .ref (q 202), .int 0, .long 0, .long 1, .ref (q 203), .ref (q 204), .ref (q 205), .ref (q 206), .ref (q 207), .int 0, .int 0, .int 0, .int 0, .int 0, .int 0, .int (-1), .int (-1), .int 0, .int 0, .int 0, .ref (q 208), .int 0, .int 0, .ref (q 209), .ref (q 210), .ref (q 211), .ref (q 212), .ref (q 213), .int 0, .int 0, .ref (q 214), .ref (q 215), .ref (q 216), .int 0, .int 0])), ((q 201), .inl (k 1, 5340, .inl at0))] H := hP
  have hD : va_D A [((q 200), .inr (12, [.ref (q 201), .ref (q 202), .int 0, .long 0, .long 1, .ref (q 203), .ref (q 204), .ref (q 205), .ref (q 206), .ref (q 207), .int 0, .int 0, .int 0, .int 0, .int 0, .int 0, .int (-1), .int (-1), .int 0, .int 0, .int 0, .ref (q 208), .int 0, .int 0, .ref (q 209), .ref (q 210), .ref (q 211), .ref (q 212), .ref (q 213), .int 0, .int 0, .ref (q 214), .ref (q 215), .ref (q 216), .int 0, .int 0])), ((q 201), .inl (k 1, 5340, .inl at0))] := hD
  refine W.eq (g2 := F0 m 2430 ls [.int (-1)]) rfl ?_
  refine lv_aload_n hx hb dL_law_2430 rfl (lv_at hl 1 rfl) ?_
  refine lv_aload_n hx hb dL_law_2431 rfl (lv_at hl 3 rfl) ?_
  refine lv_iload_n hx hb dL_law_2432 rfl (lv_at hl 0 rfl) ?_
  refine lv_iconst (v := 1) hx hb dL_law_2433 (by decide) ?_
  refine lv_iadd hx hb dL_law_2434 ?_
  refine lv_topi (fun x_5 ex_5 => ?_)
  obtain rfl : x_5 = 1 := ex_5.trans (by decide +kernel)
  refine va_sld hx hb hX hbl hbA hS (xin 1 6 rfl (by decide) (by decide)) dL_law_2435 ?_
  refine W.eq (g2 := F0 m 2436 ls [.int (xs 1), .ref (q 200), .int (-1)]) rfl ?_
  refine lv_aload_n hx hb dL_law_2436 rfl (lv_at hl 3 rfl) ?_
  refine lv_iload_n hx hb dL_law_2437 rfl (lv_at hl 0 rfl) ?_
  refine lv_iconst (v := 2) hx hb dL_law_2438 (by decide) ?_
  refine lv_iadd hx hb dL_law_2439 ?_
  refine lv_topi (fun x_6 ex_6 => ?_)
  obtain rfl : x_6 = 2 := ex_6.trans (by decide +kernel)
  refine va_sld hx hb hX hbl hbA hS (xin 2 6 rfl (by decide) (by decide)) dL_law_2440 ?_
  refine W.eq (g2 := F0 m 2441 ls [.int (xs 2), .int (xs 1), .ref (q 200), .int (-1)]) rfl ?_
  refine lv_aload_n hx hb dL_law_2441 rfl (lv_at hl 3 rfl) ?_
  refine lv_iload_n hx hb dL_law_2442 rfl (lv_at hl 0 rfl) ?_
  refine lv_iconst (v := 3) hx hb dL_law_2443 (by decide) ?_
  refine lv_iadd hx hb dL_law_2444 ?_
  refine lv_topi (fun x_7 ex_7 => ?_)
  obtain rfl : x_7 = 3 := ex_7.trans (by decide +kernel)
  refine va_sld hx hb hX hbl hbA hS (xin 3 6 rfl (by decide) (by decide)) dL_law_2445 ?_
  refine W.eq (g2 := F0 m 2446 ls [.int (xs 3), .int (xs 2), .int (xs 1), .ref (q 200), .int (-1)]) rfl ?_
  refine CWV (As := [.int (xs 1), .int (xs 2), .int (xs 3)]) (rest := [.int (-1)]) (wc := [((q 200), .inr (12, [.ref (q 201), .ref (q 202), .int 0, .long 0, .long 1, .ref (q 203), .ref (q 204), .ref (q 205), .ref (q 206), .ref (q 207), .int 0, .int 0, .int 0, .int 0, .int 0, .int 0, .int (-1), .int (-1), .int 0, .int 0, .int 0, .ref (q 208), .int 0, .int 0, .ref (q 209), .ref (q 210), .ref (q 211), .ref (q 212), .ref (q 213), .int 0, .int 0, .ref (q 214), .ref (q 215), .ref (q 216), .int 0, .int 0])), ((q 201), .inl (k 1, 5340, .inl at0))]) (wr := []) hx hb hml hown hts hKK hP hD hS hA (r_hoped l D k q (xs 1) (xs 2) (xs 3)) ci_X12_hoped qm_L_261 ⟨Nat.le_of_ble_eq_true rfl, Nat.le_of_ble_eq_true rfl⟩ ⟨Nat.le_of_ble_eq_true rfl, Nat.le_of_ble_eq_true rfl⟩ [0, 1] [] rfl rfl rfl rfl rfl (by decide) 0 rfl rfl rfl hl.1 rfl (Nat.le_of_ble_eq_true rfl) dL_law_2446 (fun u_8 H locs hφ hP hD hS => ?_)
  have hP : va_P D vwCl [] H := hP
  have hD : va_D A [] := hD
  refine W.eq (g2 := F0 m 2449 ls [.int (-1), .int (-1)]) rfl ?_
  refine lv_icmp_eq (tgt := 2849) hx hb dL_law_2449 (by decide) (fun _ => ?_) (fun c => absurd (by decide) c)
  exact law_done hx hb hr hlocks hX hbl hbA hAf hS (by decide) (by decide) hl
set_option maxHeartbeats 4000000 in
set_option maxRecDepth 100000 in
theorem law_c59 {p : Program} {e : Env} {s : State} {m : MethodId} {below : List Frame} {meth : Method} {c : Code} (l : Launch) {b : Nat} {xs : Nat → Int32} {A : Nat → Prop} {D : va_G} {k : Nat → ClassId} {q : Nat → Nat} {H : Heap} {locs : List Loc} {ls : Array Slot} (C : LC p s m meth c b xs A D k q H locs ls) : W p l e room_1 s m #[Value.ref b] below meth c H locs 123 16705 (lw_Z below #[Value.ref b] s) (F0 m 2454 ls []) := by
  obtain ⟨hx, hb, hr, hml, hown, hts, hKK, hX, hbl, hbA, hA, hAf, hlocks, hP, hD, hS, hl⟩ := C
  refine lv_aload_n hx hb dL_law_2454 rfl (lv_at hl 2 rfl) ?_
  refine lv_aload_n hx hb dL_law_2455 rfl (lv_at hl 3 rfl) ?_
  refine lv_iload_n hx hb dL_law_2456 rfl (lv_at hl 0 rfl) ?_
  refine lv_iconst (v := 1) hx hb dL_law_2457 (by decide) ?_
  refine lv_iadd hx hb dL_law_2458 ?_
  refine lv_topi (fun x_1 ex_1 => ?_)
  obtain rfl : x_1 = 1 := ex_1.trans (by decide +kernel)
  refine va_sld hx hb hX hbl hbA hS (xin 1 6 rfl (by decide) (by decide)) dL_law_2459 ?_
  refine W.eq (g2 := F0 m 2460 ls [.int (xs 1), .ref (q 0)]) rfl ?_
  refine lv_aload_n hx hb dL_law_2460 rfl (lv_at hl 3 rfl) ?_
  refine lv_iload_n hx hb dL_law_2461 rfl (lv_at hl 0 rfl) ?_
  refine lv_iconst (v := 2) hx hb dL_law_2462 (by decide) ?_
  refine lv_iadd hx hb dL_law_2463 ?_
  refine lv_topi (fun x_2 ex_2 => ?_)
  obtain rfl : x_2 = 2 := ex_2.trans (by decide +kernel)
  refine va_sld hx hb hX hbl hbA hS (xin 2 6 rfl (by decide) (by decide)) dL_law_2464 ?_
  refine W.eq (g2 := F0 m 2465 ls [.int (xs 2), .int (xs 1), .ref (q 0)]) rfl ?_
  refine CWV (As := [.int (xs 1), .int (xs 2)]) (rest := []) (wc := [((q 0), .inr (11, [.ref (q 1), .ref (q 2), .ref (q 3), .ref (q 4), .ref (q 5), .ref (q 6), .ref (q 7), .ref (q 8), .ref (q 9), .ref (q 10), .ref (q 11), .int 0, .int 0, .int 0, .long 0, .long 1])), ((q 2), .inr (8, [.ref (q 20), .ref (q 21), .ref (q 22)])), ((q 20), .inr (5, [.ref (q 23), .ref (q 24), .ref (q 25), .int 0, .int 0, .int 0, .int 0])), ((q 21), .inr (0, [.ref (q 26), .ref (q 27), .ref (q 28), .ref (q 29), .int 0, .int 0]))]) (wr := [((q 200), .inr (12, [.ref (q 201), .ref (q 202), .int 0, .long 0, .long 1, .ref (q 203), .ref (q 204), .ref (q 205), .ref (q 206), .ref (q 207), .int 0, .int 0, .int 0, .int 0, .int 0, .int 0, .int (-1), .int (-1), .int 0, .int 0, .int 0, .ref (q 208), .int 0, .int 0, .ref (q 209), .ref (q 210), .ref (q 211), .ref (q 212), .ref (q 213), .int 0, .int 0, .ref (q 214), .ref (q 215), .ref (q 216), .int 0, .int 0])), ((q 201), .inl (k 1, 5340, .inl at0))]) hx hb hml hown hts hKK hP hD hS hA (p_market l D k q (xs 1) (xs 2)) ci_X11_market qm_L_262 ⟨Nat.le_of_ble_eq_true rfl, Nat.le_of_ble_eq_true rfl⟩ ⟨Nat.le_of_ble_eq_true rfl, Nat.le_of_ble_eq_true rfl⟩ [0, 11, 12, 16] [66, 67] rfl rfl rfl rfl rfl (by decide) 0 rfl rfl rfl hl.1 rfl (Nat.le_of_ble_eq_true rfl) dL_law_2465 (fun u_3 H locs hφ hP hD hS => ?_)
  have hP : va_P D vwCl [((q 200), .inr (12, [.ref (q 201), .ref (q 202), .int 0, .long 0, .long 1, .ref (q 203), .ref (q 204), .ref (q 205), .ref (q 206), .ref (q 207), .int 0, .int 0, .int 0, .int 0, .int 0, .int 0, .int (-1), .int (-1), .int 0, .int 0, .int 0, .ref (q 208), .int 0, .int 0, .ref (q 209), .ref (q 210), .ref (q 211), .ref (q 212), .ref (q 213), .int 0, .int 0, .ref (q 214), .ref (q 215), .ref (q 216), .int 0, .int 0])), ((q 201), .inl (k 1, 5340, .inl at0))] H := hP
  have hD : va_D A [((q 200), .inr (12, [.ref (q 201), .ref (q 202), .int 0, .long 0, .long 1, .ref (q 203), .ref (q 204), .ref (q 205), .ref (q 206), .ref (q 207), .int 0, .int 0, .int 0, .int 0, .int 0, .int 0, .int (-1), .int (-1), .int 0, .int 0, .int 0, .ref (q 208), .int 0, .int 0, .ref (q 209), .ref (q 210), .ref (q 211), .ref (q 212), .ref (q 213), .int 0, .int 0, .ref (q 214), .ref (q 215), .ref (q 216), .int 0, .int 0])), ((q 201), .inl (k 1, 5340, .inl at0))] := hD
  refine W.eq (g2 := F0 m 2468 ls [.int (-1)]) rfl ?_
  refine lv_aload_n hx hb dL_law_2468 rfl (lv_at hl 1 rfl) ?_
  refine lv_aload_n hx hb dL_law_2469 rfl (lv_at hl 3 rfl) ?_
  refine lv_iload_n hx hb dL_law_2470 rfl (lv_at hl 0 rfl) ?_
  refine lv_iconst (v := 1) hx hb dL_law_2471 (by decide) ?_
  refine lv_iadd hx hb dL_law_2472 ?_
  refine lv_topi (fun x_4 ex_4 => ?_)
  obtain rfl : x_4 = 1 := ex_4.trans (by decide +kernel)
  refine va_sld hx hb hX hbl hbA hS (xin 1 6 rfl (by decide) (by decide)) dL_law_2473 ?_
  refine W.eq (g2 := F0 m 2474 ls [.int (xs 1), .ref (q 200), .int (-1)]) rfl ?_
  refine lv_aload_n hx hb dL_law_2474 rfl (lv_at hl 3 rfl) ?_
  refine lv_iload_n hx hb dL_law_2475 rfl (lv_at hl 0 rfl) ?_
  refine lv_iconst (v := 2) hx hb dL_law_2476 (by decide) ?_
  refine lv_iadd hx hb dL_law_2477 ?_
  refine lv_topi (fun x_5 ex_5 => ?_)
  obtain rfl : x_5 = 2 := ex_5.trans (by decide +kernel)
  refine va_sld hx hb hX hbl hbA hS (xin 2 6 rfl (by decide) (by decide)) dL_law_2478 ?_
  refine W.eq (g2 := F0 m 2479 ls [.int (xs 2), .int (xs 1), .ref (q 200), .int (-1)]) rfl ?_
  refine CWV (As := [.int (xs 1), .int (xs 2)]) (rest := [.int (-1)]) (wc := [((q 200), .inr (12, [.ref (q 201), .ref (q 202), .int 0, .long 0, .long 1, .ref (q 203), .ref (q 204), .ref (q 205), .ref (q 206), .ref (q 207), .int 0, .int 0, .int 0, .int 0, .int 0, .int 0, .int (-1), .int (-1), .int 0, .int 0, .int 0, .ref (q 208), .int 0, .int 0, .ref (q 209), .ref (q 210), .ref (q 211), .ref (q 212), .ref (q 213), .int 0, .int 0, .ref (q 214), .ref (q 215), .ref (q 216), .int 0, .int 0])), ((q 201), .inl (k 1, 5340, .inl at0))]) (wr := []) hx hb hml hown hts hKK hP hD hS hA (r_market l D k q (xs 1) (xs 2)) ci_X12_market qm_L_265 ⟨Nat.le_of_ble_eq_true rfl, Nat.le_of_ble_eq_true rfl⟩ ⟨Nat.le_of_ble_eq_true rfl, Nat.le_of_ble_eq_true rfl⟩ [0, 1] [] rfl rfl rfl rfl rfl (by decide) 0 rfl rfl rfl hl.1 rfl (Nat.le_of_ble_eq_true rfl) dL_law_2479 (fun u_6 H locs hφ hP hD hS => ?_)
  have hP : va_P D vwCl [] H := hP
  have hD : va_D A [] := hD
  refine W.eq (g2 := F0 m 2482 ls [.int (-1), .int (-1)]) rfl ?_
  refine lv_icmp_eq (tgt := 2849) hx hb dL_law_2482 (by decide) (fun _ => ?_) (fun c => absurd (by decide) c)
  exact law_done hx hb hr hlocks hX hbl hbA hAf hS (by decide) (by decide) hl
set_option maxHeartbeats 4000000 in
set_option maxRecDepth 100000 in
theorem law_c60 {p : Program} {e : Env} {s : State} {m : MethodId} {below : List Frame} {meth : Method} {c : Code} (l : Launch) {b : Nat} {xs : Nat → Int32} {A : Nat → Prop} {D : va_G} {k : Nat → ClassId} {q : Nat → Nat} {H : Heap} {locs : List Loc} {ls : Array Slot} (C : LC p s m meth c b xs A D k q H locs ls) : W p l e room_1 s m #[Value.ref b] below meth c H locs 123 16705 (lw_Z below #[Value.ref b] s) (F0 m 2487 ls []) := by
  obtain ⟨hx, hb, hr, hml, hown, hts, hKK, hX, hbl, hbA, hA, hAf, hlocks, hP, hD, hS, hl⟩ := C
  refine lv_aload_n hx hb dL_law_2487 rfl (lv_at hl 2 rfl) ?_
  refine lv_aload_n hx hb dL_law_2488 rfl (lv_at hl 3 rfl) ?_
  refine lv_iload_n hx hb dL_law_2489 rfl (lv_at hl 0 rfl) ?_
  refine lv_iconst (v := 1) hx hb dL_law_2490 (by decide) ?_
  refine lv_iadd hx hb dL_law_2491 ?_
  refine lv_topi (fun x_1 ex_1 => ?_)
  obtain rfl : x_1 = 1 := ex_1.trans (by decide +kernel)
  refine va_sld hx hb hX hbl hbA hS (xin 1 6 rfl (by decide) (by decide)) dL_law_2492 ?_
  refine W.eq (g2 := F0 m 2493 ls [.int (xs 1), .ref (q 0)]) rfl ?_
  refine lv_aload_n hx hb dL_law_2493 rfl (lv_at hl 3 rfl) ?_
  refine lv_iload_n hx hb dL_law_2494 rfl (lv_at hl 0 rfl) ?_
  refine lv_iconst (v := 2) hx hb dL_law_2495 (by decide) ?_
  refine lv_iadd hx hb dL_law_2496 ?_
  refine lv_topi (fun x_2 ex_2 => ?_)
  obtain rfl : x_2 = 2 := ex_2.trans (by decide +kernel)
  refine va_sld hx hb hX hbl hbA hS (xin 2 6 rfl (by decide) (by decide)) dL_law_2497 ?_
  refine W.eq (g2 := F0 m 2498 ls [.int (xs 2), .int (xs 1), .ref (q 0)]) rfl ?_
  refine lv_aload_n hx hb dL_law_2498 rfl (lv_at hl 3 rfl) ?_
  refine lv_iload_n hx hb dL_law_2499 rfl (lv_at hl 0 rfl) ?_
  refine lv_iconst (v := 3) hx hb dL_law_2500 (by decide) ?_
  refine lv_iadd hx hb dL_law_2501 ?_
  refine lv_topi (fun x_3 ex_3 => ?_)
  obtain rfl : x_3 = 3 := ex_3.trans (by decide +kernel)
  refine va_sld hx hb hX hbl hbA hS (xin 3 6 rfl (by decide) (by decide)) dL_law_2502 ?_
  refine W.eq (g2 := F0 m 2503 ls [.int (xs 3), .int (xs 2), .int (xs 1), .ref (q 0)]) rfl ?_
  refine CWV (As := [.int (xs 1), .int (xs 2), .int (xs 3)]) (rest := []) (wc := [((q 0), .inr (11, [.ref (q 1), .ref (q 2), .ref (q 3), .ref (q 4), .ref (q 5), .ref (q 6), .ref (q 7), .ref (q 8), .ref (q 9), .ref (q 10), .ref (q 11), .int 0, .int 0, .int 0, .long 0, .long 1])), ((q 2), .inr (8, [.ref (q 20), .ref (q 21), .ref (q 22)])), ((q 20), .inr (5, [.ref (q 23), .ref (q 24), .ref (q 25), .int 0, .int 0, .int 0, .int 0])), ((q 21), .inr (0, [.ref (q 26), .ref (q 27), .ref (q 28), .ref (q 29), .int 0, .int 0]))]) (wr := [((q 200), .inr (12, [.ref (q 201), .ref (q 202), .int 0, .long 0, .long 1, .ref (q 203), .ref (q 204), .ref (q 205), .ref (q 206), .ref (q 207), .int 0, .int 0, .int 0, .int 0, .int 0, .int 0, .int (-1), .int (-1), .int 0, .int 0, .int 0, .ref (q 208), .int 0, .int 0, .ref (q 209), .ref (q 210), .ref (q 211), .ref (q 212), .ref (q 213), .int 0, .int 0, .ref (q 214), .ref (q 215), .ref (q 216), .int 0, .int 0])), ((q 201), .inl (k 1, 5340, .inl at0))]) hx hb hml hown hts hKK hP hD hS hA (p_meanPrice l D k q (xs 1) (xs 2) (xs 3)) ci_X11_meanPrice qm_L_266 ⟨Nat.le_of_ble_eq_true rfl, Nat.le_of_ble_eq_true rfl⟩ ⟨Nat.le_of_ble_eq_true rfl, Nat.le_of_ble_eq_true rfl⟩ [0, 11, 12, 16] [66, 67] rfl rfl rfl rfl rfl (by decide) 0 rfl rfl rfl hl.1 rfl (Nat.le_of_ble_eq_true rfl) dL_law_2503 (fun u_4 H locs hφ hP hD hS => ?_)
  have hP : va_P D vwCl [((q 200), .inr (12, [.ref (q 201), .ref (q 202), .int 0, .long 0, .long 1, .ref (q 203), .ref (q 204), .ref (q 205), .ref (q 206), .ref (q 207), .int 0, .int 0, .int 0, .int 0, .int 0, .int 0, .int (-1), .int (-1), .int 0, .int 0, .int 0, .ref (q 208), .int 0, .int 0, .ref (q 209), .ref (q 210), .ref (q 211), .ref (q 212), .ref (q 213), .int 0, .int 0, .ref (q 214), .ref (q 215), .ref (q 216), .int 0, .int 0])), ((q 201), .inl (k 1, 5340, .inl at0))] H := hP
  have hD : va_D A [((q 200), .inr (12, [.ref (q 201), .ref (q 202), .int 0, .long 0, .long 1, .ref (q 203), .ref (q 204), .ref (q 205), .ref (q 206), .ref (q 207), .int 0, .int 0, .int 0, .int 0, .int 0, .int 0, .int (-1), .int (-1), .int 0, .int 0, .int 0, .ref (q 208), .int 0, .int 0, .ref (q 209), .ref (q 210), .ref (q 211), .ref (q 212), .ref (q 213), .int 0, .int 0, .ref (q 214), .ref (q 215), .ref (q 216), .int 0, .int 0])), ((q 201), .inl (k 1, 5340, .inl at0))] := hD
  refine W.eq (g2 := F0 m 2506 ls [.int 0]) rfl ?_
  refine lv_aload_n hx hb dL_law_2506 rfl (lv_at hl 1 rfl) ?_
  refine lv_aload_n hx hb dL_law_2507 rfl (lv_at hl 3 rfl) ?_
  refine lv_iload_n hx hb dL_law_2508 rfl (lv_at hl 0 rfl) ?_
  refine lv_iconst (v := 1) hx hb dL_law_2509 (by decide) ?_
  refine lv_iadd hx hb dL_law_2510 ?_
  refine lv_topi (fun x_5 ex_5 => ?_)
  obtain rfl : x_5 = 1 := ex_5.trans (by decide +kernel)
  refine va_sld hx hb hX hbl hbA hS (xin 1 6 rfl (by decide) (by decide)) dL_law_2511 ?_
  refine W.eq (g2 := F0 m 2512 ls [.int (xs 1), .ref (q 200), .int 0]) rfl ?_
  refine lv_aload_n hx hb dL_law_2512 rfl (lv_at hl 3 rfl) ?_
  refine lv_iload_n hx hb dL_law_2513 rfl (lv_at hl 0 rfl) ?_
  refine lv_iconst (v := 2) hx hb dL_law_2514 (by decide) ?_
  refine lv_iadd hx hb dL_law_2515 ?_
  refine lv_topi (fun x_6 ex_6 => ?_)
  obtain rfl : x_6 = 2 := ex_6.trans (by decide +kernel)
  refine va_sld hx hb hX hbl hbA hS (xin 2 6 rfl (by decide) (by decide)) dL_law_2516 ?_
  refine W.eq (g2 := F0 m 2517 ls [.int (xs 2), .int (xs 1), .ref (q 200), .int 0]) rfl ?_
  refine lv_aload_n hx hb dL_law_2517 rfl (lv_at hl 3 rfl) ?_
  refine lv_iload_n hx hb dL_law_2518 rfl (lv_at hl 0 rfl) ?_
  refine lv_iconst (v := 3) hx hb dL_law_2519 (by decide) ?_
  refine lv_iadd hx hb dL_law_2520 ?_
  refine lv_topi (fun x_7 ex_7 => ?_)
  obtain rfl : x_7 = 3 := ex_7.trans (by decide +kernel)
  refine va_sld hx hb hX hbl hbA hS (xin 3 6 rfl (by decide) (by decide)) dL_law_2521 ?_
  refine W.eq (g2 := F0 m 2522 ls [.int (xs 3), .int (xs 2), .int (xs 1), .ref (q 200), .int 0]) rfl ?_
  refine CWV (As := [.int (xs 1), .int (xs 2), .int (xs 3)]) (rest := [.int 0]) (wc := [((q 200), .inr (12, [.ref (q 201), .ref (q 202), .int 0, .long 0, .long 1, .ref (q 203), .ref (q 204), .ref (q 205), .ref (q 206), .ref (q 207), .int 0, .int 0, .int 0, .int 0, .int 0, .int 0, .int (-1), .int (-1), .int 0, .int 0, .int 0, .ref (q 208), .int 0, .int 0, .ref (q 209), .ref (q 210), .ref (q 211), .ref (q 212), .ref (q 213), .int 0, .int 0, .ref (q 214), .ref (q 215), .ref (q 216), .int 0, .int 0])), ((q 201), .inl (k 1, 5340, .inl at0))]) (wr := []) hx hb hml hown hts hKK hP hD hS hA (r_meanPrice l D k q (xs 1) (xs 2) (xs 3)) ci_X12_meanPrice qm_L_269 ⟨Nat.le_of_ble_eq_true rfl, Nat.le_of_ble_eq_true rfl⟩ ⟨Nat.le_of_ble_eq_true rfl, Nat.le_of_ble_eq_true rfl⟩ [0, 1] [] rfl rfl rfl rfl rfl (by decide) 0 rfl rfl rfl hl.1 rfl (Nat.le_of_ble_eq_true rfl) dL_law_2522 (fun u_8 H locs hφ hP hD hS => ?_)
  have hP : va_P D vwCl [] H := hP
  have hD : va_D A [] := hD
  refine W.eq (g2 := F0 m 2525 ls [.int 0, .int 0]) rfl ?_
  refine lv_icmp_eq (tgt := 2849) hx hb dL_law_2525 (by decide) (fun _ => ?_) (fun c => absurd (by decide) c)
  exact law_done hx hb hr hlocks hX hbl hbA hAf hS (by decide) (by decide) hl
set_option maxHeartbeats 4000000 in
set_option maxRecDepth 100000 in
theorem law_c61 {p : Program} {e : Env} {s : State} {m : MethodId} {below : List Frame} {meth : Method} {c : Code} (l : Launch) {b : Nat} {xs : Nat → Int32} {A : Nat → Prop} {D : va_G} {k : Nat → ClassId} {q : Nat → Nat} {H : Heap} {locs : List Loc} {ls : Array Slot} (C : LC p s m meth c b xs A D k q H locs ls) : W p l e room_1 s m #[Value.ref b] below meth c H locs 123 16705 (lw_Z below #[Value.ref b] s) (F0 m 2530 ls []) := by
  obtain ⟨hx, hb, hr, hml, hown, hts, hKK, hX, hbl, hbA, hA, hAf, hlocks, hP, hD, hS, hl⟩ := C
  refine lv_aload_n hx hb dL_law_2530 rfl (lv_at hl 2 rfl) ?_
  refine lv_aload_n hx hb dL_law_2531 rfl (lv_at hl 3 rfl) ?_
  refine lv_iload_n hx hb dL_law_2532 rfl (lv_at hl 0 rfl) ?_
  refine lv_iconst (v := 1) hx hb dL_law_2533 (by decide) ?_
  refine lv_iadd hx hb dL_law_2534 ?_
  refine lv_topi (fun x_1 ex_1 => ?_)
  obtain rfl : x_1 = 1 := ex_1.trans (by decide +kernel)
  refine va_sld hx hb hX hbl hbA hS (xin 1 6 rfl (by decide) (by decide)) dL_law_2535 ?_
  refine W.eq (g2 := F0 m 2536 ls [.int (xs 1), .ref (q 0)]) rfl ?_
  refine CWV (As := [.int (xs 1)]) (rest := []) (wc := [((q 0), .inr (11, [.ref (q 1), .ref (q 2), .ref (q 3), .ref (q 4), .ref (q 5), .ref (q 6), .ref (q 7), .ref (q 8), .ref (q 9), .ref (q 10), .ref (q 11), .int 0, .int 0, .int 0, .long 0, .long 1])), ((q 2), .inr (8, [.ref (q 20), .ref (q 21), .ref (q 22)])), ((q 20), .inr (5, [.ref (q 23), .ref (q 24), .ref (q 25), .int 0, .int 0, .int 0, .int 0])), ((q 21), .inr (0, [.ref (q 26), .ref (q 27), .ref (q 28), .ref (q 29), .int 0, .int 0])), ((q 10), .inr (1, [.ref (q 2), .ref (q 8), .ref (q 9), .ref (q 137), .int 0, .int 0, .int 0, .int 0, .int 0, .int 0, .int 0])), ((q 26), .inl (k 1, 401, .inl (fun _ => 0)))]) (wr := [((q 200), .inr (12, [.ref (q 201), .ref (q 202), .int 0, .long 0, .long 1, .ref (q 203), .ref (q 204), .ref (q 205), .ref (q 206), .ref (q 207), .int 0, .int 0, .int 0, .int 0, .int 0, .int 0, .int (-1), .int (-1), .int 0, .int 0, .int 0, .ref (q 208), .int 0, .int 0, .ref (q 209), .ref (q 210), .ref (q 211), .ref (q 212), .ref (q 213), .int 0, .int 0, .ref (q 214), .ref (q 215), .ref (q 216), .int 0, .int 0])), ((q 201), .inl (k 1, 5340, .inl at0))]) hx hb hml hown hts hKK hP hD hS hA (p_pass l D k q (xs 1)) ci_X11_pass qm_L_270 ⟨Nat.le_of_ble_eq_true rfl, Nat.le_of_ble_eq_true rfl⟩ ⟨Nat.le_of_ble_eq_true rfl, Nat.le_of_ble_eq_true rfl⟩ [0, 11, 12, 16, 64, 17] [66, 67] rfl rfl rfl rfl rfl (by decide) 0 rfl rfl rfl hl.1 rfl (Nat.le_of_ble_eq_true rfl) dL_law_2536 (fun u_2 H locs hφ hP hD hS => ?_)
  have hP : va_P D vwCl [((q 200), .inr (12, [.ref (q 201), .ref (q 202), .int 0, .long 0, .long 1, .ref (q 203), .ref (q 204), .ref (q 205), .ref (q 206), .ref (q 207), .int 0, .int 0, .int 0, .int 0, .int 0, .int 0, .int (-1), .int (-1), .int 0, .int 0, .int 0, .ref (q 208), .int 0, .int 0, .ref (q 209), .ref (q 210), .ref (q 211), .ref (q 212), .ref (q 213), .int 0, .int 0, .ref (q 214), .ref (q 215), .ref (q 216), .int 0, .int 0])), ((q 201), .inl (k 1, 5340, .inl at0))] H := hP
  have hD : va_D A [((q 200), .inr (12, [.ref (q 201), .ref (q 202), .int 0, .long 0, .long 1, .ref (q 203), .ref (q 204), .ref (q 205), .ref (q 206), .ref (q 207), .int 0, .int 0, .int 0, .int 0, .int 0, .int 0, .int (-1), .int (-1), .int 0, .int 0, .int 0, .ref (q 208), .int 0, .int 0, .ref (q 209), .ref (q 210), .ref (q 211), .ref (q 212), .ref (q 213), .int 0, .int 0, .ref (q 214), .ref (q 215), .ref (q 216), .int 0, .int 0])), ((q 201), .inl (k 1, 5340, .inl at0))] := hD
  refine W.eq (g2 := F0 m 2539 ls [.int (psA (xs 1))]) rfl ?_
  refine lv_aload_n hx hb dL_law_2539 rfl (lv_at hl 1 rfl) ?_
  refine lv_aload_n hx hb dL_law_2540 rfl (lv_at hl 3 rfl) ?_
  refine lv_iload_n hx hb dL_law_2541 rfl (lv_at hl 0 rfl) ?_
  refine lv_iconst (v := 1) hx hb dL_law_2542 (by decide) ?_
  refine lv_iadd hx hb dL_law_2543 ?_
  refine lv_topi (fun x_3 ex_3 => ?_)
  obtain rfl : x_3 = 1 := ex_3.trans (by decide +kernel)
  refine va_sld hx hb hX hbl hbA hS (xin 1 6 rfl (by decide) (by decide)) dL_law_2544 ?_
  refine W.eq (g2 := F0 m 2545 ls [.int (xs 1), .ref (q 200), .int (psA (xs 1))]) rfl ?_
  refine CWV (As := [.int (xs 1)]) (rest := [.int (psA (xs 1))]) (wc := [((q 200), .inr (12, [.ref (q 201), .ref (q 202), .int 0, .long 0, .long 1, .ref (q 203), .ref (q 204), .ref (q 205), .ref (q 206), .ref (q 207), .int 0, .int 0, .int 0, .int 0, .int 0, .int 0, .int (-1), .int (-1), .int 0, .int 0, .int 0, .ref (q 208), .int 0, .int 0, .ref (q 209), .ref (q 210), .ref (q 211), .ref (q 212), .ref (q 213), .int 0, .int 0, .ref (q 214), .ref (q 215), .ref (q 216), .int 0, .int 0])), ((q 201), .inl (k 1, 5340, .inl at0))]) (wr := []) hx hb hml hown hts hKK hP hD hS hA (r_pass l D k q (xs 1)) ci_X12_pass qm_L_273 ⟨Nat.le_of_ble_eq_true rfl, Nat.le_of_ble_eq_true rfl⟩ ⟨Nat.le_of_ble_eq_true rfl, Nat.le_of_ble_eq_true rfl⟩ [0, 1] [] rfl rfl rfl rfl rfl (by decide) 0 rfl rfl rfl hl.1 rfl (Nat.le_of_ble_eq_true rfl) dL_law_2545 (fun u_4 H locs hφ hP hD hS => ?_)
  have hP : va_P D vwCl [] H := hP
  have hD : va_D A [] := hD
  refine W.eq (g2 := F0 m 2548 ls [.int (psA (xs 1)), .int (psA (xs 1))]) rfl ?_
  refine lv_icmp_eq (tgt := 2849) hx hb dL_law_2548 (by decide) (fun _ => ?_) (fun c => absurd rfl c)
  exact law_done hx hb hr hlocks hX hbl hbA hAf hS (by decide) (by decide) hl
set_option maxHeartbeats 4000000 in
set_option maxRecDepth 100000 in
theorem law_c62 {p : Program} {e : Env} {s : State} {m : MethodId} {below : List Frame} {meth : Method} {c : Code} (l : Launch) {b : Nat} {xs : Nat → Int32} {A : Nat → Prop} {D : va_G} {k : Nat → ClassId} {q : Nat → Nat} {H : Heap} {locs : List Loc} {ls : Array Slot} (C : LC p s m meth c b xs A D k q H locs ls) : W p l e room_1 s m #[Value.ref b] below meth c H locs 123 16705 (lw_Z below #[Value.ref b] s) (F0 m 2553 ls []) := by
  obtain ⟨hx, hb, hr, hml, hown, hts, hKK, hX, hbl, hbA, hA, hAf, hlocks, hP, hD, hS, hl⟩ := C
  refine lv_aload_n hx hb dL_law_2553 rfl (lv_at hl 2 rfl) ?_
  refine lv_aload_n hx hb dL_law_2554 rfl (lv_at hl 3 rfl) ?_
  refine lv_iload_n hx hb dL_law_2555 rfl (lv_at hl 0 rfl) ?_
  refine lv_iconst (v := 1) hx hb dL_law_2556 (by decide) ?_
  refine lv_iadd hx hb dL_law_2557 ?_
  refine lv_topi (fun x_1 ex_1 => ?_)
  obtain rfl : x_1 = 1 := ex_1.trans (by decide +kernel)
  refine va_sld hx hb hX hbl hbA hS (xin 1 6 rfl (by decide) (by decide)) dL_law_2558 ?_
  refine W.eq (g2 := F0 m 2559 ls [.int (xs 1), .ref (q 0)]) rfl ?_
  refine lv_aload_n hx hb dL_law_2559 rfl (lv_at hl 3 rfl) ?_
  refine lv_iload_n hx hb dL_law_2560 rfl (lv_at hl 0 rfl) ?_
  refine lv_iconst (v := 2) hx hb dL_law_2561 (by decide) ?_
  refine lv_iadd hx hb dL_law_2562 ?_
  refine lv_topi (fun x_2 ex_2 => ?_)
  obtain rfl : x_2 = 2 := ex_2.trans (by decide +kernel)
  refine va_sld hx hb hX hbl hbA hS (xin 2 6 rfl (by decide) (by decide)) dL_law_2563 ?_
  refine W.eq (g2 := F0 m 2564 ls [.int (xs 2), .int (xs 1), .ref (q 0)]) rfl ?_
  refine CWV (As := [.int (xs 1), .int (xs 2)]) (rest := []) (wc := [((q 0), .inr (11, [.ref (q 1), .ref (q 2), .ref (q 3), .ref (q 4), .ref (q 5), .ref (q 6), .ref (q 7), .ref (q 8), .ref (q 9), .ref (q 10), .ref (q 11), .int 0, .int 0, .int 0, .long 0, .long 1])), ((q 2), .inr (8, [.ref (q 20), .ref (q 21), .ref (q 22)])), ((q 20), .inr (5, [.ref (q 23), .ref (q 24), .ref (q 25), .int 0, .int 0, .int 0, .int 0])), ((q 21), .inr (0, [.ref (q 26), .ref (q 27), .ref (q 28), .ref (q 29), .int 0, .int 0]))]) (wr := [((q 200), .inr (12, [.ref (q 201), .ref (q 202), .int 0, .long 0, .long 1, .ref (q 203), .ref (q 204), .ref (q 205), .ref (q 206), .ref (q 207), .int 0, .int 0, .int 0, .int 0, .int 0, .int 0, .int (-1), .int (-1), .int 0, .int 0, .int 0, .ref (q 208), .int 0, .int 0, .ref (q 209), .ref (q 210), .ref (q 211), .ref (q 212), .ref (q 213), .int 0, .int 0, .ref (q 214), .ref (q 215), .ref (q 216), .int 0, .int 0])), ((q 201), .inl (k 1, 5340, .inl at0))]) hx hb hml hown hts hKK hP hD hS hA (p_wore l D k q (xs 1) (xs 2)) ci_X11_wore qm_L_274 ⟨Nat.le_of_ble_eq_true rfl, Nat.le_of_ble_eq_true rfl⟩ ⟨Nat.le_of_ble_eq_true rfl, Nat.le_of_ble_eq_true rfl⟩ [0, 11, 12, 16] [66, 67] rfl rfl rfl rfl rfl (by decide) 0 rfl rfl rfl hl.1 rfl (Nat.le_of_ble_eq_true rfl) dL_law_2564 (fun u_3 H locs hφ hP hD hS => ?_)
  have hP : va_P D vwCl [((q 200), .inr (12, [.ref (q 201), .ref (q 202), .int 0, .long 0, .long 1, .ref (q 203), .ref (q 204), .ref (q 205), .ref (q 206), .ref (q 207), .int 0, .int 0, .int 0, .int 0, .int 0, .int 0, .int (-1), .int (-1), .int 0, .int 0, .int 0, .ref (q 208), .int 0, .int 0, .ref (q 209), .ref (q 210), .ref (q 211), .ref (q 212), .ref (q 213), .int 0, .int 0, .ref (q 214), .ref (q 215), .ref (q 216), .int 0, .int 0])), ((q 201), .inl (k 1, 5340, .inl at0))] H := hP
  have hD : va_D A [((q 200), .inr (12, [.ref (q 201), .ref (q 202), .int 0, .long 0, .long 1, .ref (q 203), .ref (q 204), .ref (q 205), .ref (q 206), .ref (q 207), .int 0, .int 0, .int 0, .int 0, .int 0, .int 0, .int (-1), .int (-1), .int 0, .int 0, .int 0, .ref (q 208), .int 0, .int 0, .ref (q 209), .ref (q 210), .ref (q 211), .ref (q 212), .ref (q 213), .int 0, .int 0, .ref (q 214), .ref (q 215), .ref (q 216), .int 0, .int 0])), ((q 201), .inl (k 1, 5340, .inl at0))] := hD
  refine W.eq (g2 := F0 m 2567 ls [.int (-1)]) rfl ?_
  refine lv_aload_n hx hb dL_law_2567 rfl (lv_at hl 1 rfl) ?_
  refine lv_aload_n hx hb dL_law_2568 rfl (lv_at hl 3 rfl) ?_
  refine lv_iload_n hx hb dL_law_2569 rfl (lv_at hl 0 rfl) ?_
  refine lv_iconst (v := 1) hx hb dL_law_2570 (by decide) ?_
  refine lv_iadd hx hb dL_law_2571 ?_
  refine lv_topi (fun x_4 ex_4 => ?_)
  obtain rfl : x_4 = 1 := ex_4.trans (by decide +kernel)
  refine va_sld hx hb hX hbl hbA hS (xin 1 6 rfl (by decide) (by decide)) dL_law_2572 ?_
  refine W.eq (g2 := F0 m 2573 ls [.int (xs 1), .ref (q 200), .int (-1)]) rfl ?_
  refine lv_aload_n hx hb dL_law_2573 rfl (lv_at hl 3 rfl) ?_
  refine lv_iload_n hx hb dL_law_2574 rfl (lv_at hl 0 rfl) ?_
  refine lv_iconst (v := 2) hx hb dL_law_2575 (by decide) ?_
  refine lv_iadd hx hb dL_law_2576 ?_
  refine lv_topi (fun x_5 ex_5 => ?_)
  obtain rfl : x_5 = 2 := ex_5.trans (by decide +kernel)
  refine va_sld hx hb hX hbl hbA hS (xin 2 6 rfl (by decide) (by decide)) dL_law_2577 ?_
  refine W.eq (g2 := F0 m 2578 ls [.int (xs 2), .int (xs 1), .ref (q 200), .int (-1)]) rfl ?_
  refine CWV (As := [.int (xs 1), .int (xs 2)]) (rest := [.int (-1)]) (wc := [((q 200), .inr (12, [.ref (q 201), .ref (q 202), .int 0, .long 0, .long 1, .ref (q 203), .ref (q 204), .ref (q 205), .ref (q 206), .ref (q 207), .int 0, .int 0, .int 0, .int 0, .int 0, .int 0, .int (-1), .int (-1), .int 0, .int 0, .int 0, .ref (q 208), .int 0, .int 0, .ref (q 209), .ref (q 210), .ref (q 211), .ref (q 212), .ref (q 213), .int 0, .int 0, .ref (q 214), .ref (q 215), .ref (q 216), .int 0, .int 0])), ((q 201), .inl (k 1, 5340, .inl at0))]) (wr := []) hx hb hml hown hts hKK hP hD hS hA (r_wore l D k q (xs 1) (xs 2)) ci_X12_wore qm_L_277 ⟨Nat.le_of_ble_eq_true rfl, Nat.le_of_ble_eq_true rfl⟩ ⟨Nat.le_of_ble_eq_true rfl, Nat.le_of_ble_eq_true rfl⟩ [0, 1] [] rfl rfl rfl rfl rfl (by decide) 0 rfl rfl rfl hl.1 rfl (Nat.le_of_ble_eq_true rfl) dL_law_2578 (fun u_6 H locs hφ hP hD hS => ?_)
  have hP : va_P D vwCl [] H := hP
  have hD : va_D A [] := hD
  refine W.eq (g2 := F0 m 2581 ls [.int (-1), .int (-1)]) rfl ?_
  refine lv_icmp_eq (tgt := 2849) hx hb dL_law_2581 (by decide) (fun _ => ?_) (fun c => absurd (by decide) c)
  exact law_done hx hb hr hlocks hX hbl hbA hAf hS (by decide) (by decide) hl
set_option maxHeartbeats 4000000 in
set_option maxRecDepth 100000 in
theorem law_c63 {p : Program} {e : Env} {s : State} {m : MethodId} {below : List Frame} {meth : Method} {c : Code} (l : Launch) {b : Nat} {xs : Nat → Int32} {A : Nat → Prop} {D : va_G} {k : Nat → ClassId} {q : Nat → Nat} {H : Heap} {locs : List Loc} {ls : Array Slot} (C : LC p s m meth c b xs A D k q H locs ls) : W p l e room_1 s m #[Value.ref b] below meth c H locs 123 16705 (lw_Z below #[Value.ref b] s) (F0 m 2586 ls []) := by
  obtain ⟨hx, hb, hr, hml, hown, hts, hKK, hX, hbl, hbA, hA, hAf, hlocks, hP, hD, hS, hl⟩ := C
  refine lv_aload_n hx hb dL_law_2586 rfl (lv_at hl 2 rfl) ?_
  refine lv_aload_n hx hb dL_law_2587 rfl (lv_at hl 3 rfl) ?_
  refine lv_iload_n hx hb dL_law_2588 rfl (lv_at hl 0 rfl) ?_
  refine lv_iconst (v := 1) hx hb dL_law_2589 (by decide) ?_
  refine lv_iadd hx hb dL_law_2590 ?_
  refine lv_topi (fun x_1 ex_1 => ?_)
  obtain rfl : x_1 = 1 := ex_1.trans (by decide +kernel)
  refine va_sld hx hb hX hbl hbA hS (xin 1 6 rfl (by decide) (by decide)) dL_law_2591 ?_
  refine W.eq (g2 := F0 m 2592 ls [.int (xs 1), .ref (q 0)]) rfl ?_
  refine lv_aload_n hx hb dL_law_2592 rfl (lv_at hl 3 rfl) ?_
  refine lv_iload_n hx hb dL_law_2593 rfl (lv_at hl 0 rfl) ?_
  refine lv_iconst (v := 2) hx hb dL_law_2594 (by decide) ?_
  refine lv_iadd hx hb dL_law_2595 ?_
  refine lv_topi (fun x_2 ex_2 => ?_)
  obtain rfl : x_2 = 2 := ex_2.trans (by decide +kernel)
  refine va_sld hx hb hX hbl hbA hS (xin 2 6 rfl (by decide) (by decide)) dL_law_2596 ?_
  refine W.eq (g2 := F0 m 2597 ls [.int (xs 2), .int (xs 1), .ref (q 0)]) rfl ?_
  refine CWV (As := [.int (xs 1), .int (xs 2)]) (rest := []) (wc := [((q 0), .inr (11, [.ref (q 1), .ref (q 2), .ref (q 3), .ref (q 4), .ref (q 5), .ref (q 6), .ref (q 7), .ref (q 8), .ref (q 9), .ref (q 10), .ref (q 11), .int 0, .int 0, .int 0, .long 0, .long 1])), ((q 2), .inr (8, [.ref (q 20), .ref (q 21), .ref (q 22)])), ((q 20), .inr (5, [.ref (q 23), .ref (q 24), .ref (q 25), .int 0, .int 0, .int 0, .int 0])), ((q 21), .inr (0, [.ref (q 26), .ref (q 27), .ref (q 28), .ref (q 29), .int 0, .int 0]))]) (wr := [((q 200), .inr (12, [.ref (q 201), .ref (q 202), .int 0, .long 0, .long 1, .ref (q 203), .ref (q 204), .ref (q 205), .ref (q 206), .ref (q 207), .int 0, .int 0, .int 0, .int 0, .int 0, .int 0, .int (-1), .int (-1), .int 0, .int 0, .int 0, .ref (q 208), .int 0, .int 0, .ref (q 209), .ref (q 210), .ref (q 211), .ref (q 212), .ref (q 213), .int 0, .int 0, .ref (q 214), .ref (q 215), .ref (q 216), .int 0, .int 0])), ((q 201), .inl (k 1, 5340, .inl at0))]) hx hb hml hown hts hKK hP hD hS hA (p_wear l D k q (xs 1) (xs 2)) ci_X11_wear qm_L_278 ⟨Nat.le_of_ble_eq_true rfl, Nat.le_of_ble_eq_true rfl⟩ ⟨Nat.le_of_ble_eq_true rfl, Nat.le_of_ble_eq_true rfl⟩ [0, 11, 12, 16] [66, 67] rfl rfl rfl rfl rfl (by decide) 0 rfl rfl rfl hl.1 rfl (Nat.le_of_ble_eq_true rfl) dL_law_2597 (fun u_3 H locs hφ hP hD hS => ?_)
  have hP : va_P D vwCl [((q 200), .inr (12, [.ref (q 201), .ref (q 202), .int 0, .long 0, .long 1, .ref (q 203), .ref (q 204), .ref (q 205), .ref (q 206), .ref (q 207), .int 0, .int 0, .int 0, .int 0, .int 0, .int 0, .int (-1), .int (-1), .int 0, .int 0, .int 0, .ref (q 208), .int 0, .int 0, .ref (q 209), .ref (q 210), .ref (q 211), .ref (q 212), .ref (q 213), .int 0, .int 0, .ref (q 214), .ref (q 215), .ref (q 216), .int 0, .int 0])), ((q 201), .inl (k 1, 5340, .inl at0))] H := hP
  have hD : va_D A [((q 200), .inr (12, [.ref (q 201), .ref (q 202), .int 0, .long 0, .long 1, .ref (q 203), .ref (q 204), .ref (q 205), .ref (q 206), .ref (q 207), .int 0, .int 0, .int 0, .int 0, .int 0, .int 0, .int (-1), .int (-1), .int 0, .int 0, .int 0, .ref (q 208), .int 0, .int 0, .ref (q 209), .ref (q 210), .ref (q 211), .ref (q 212), .ref (q 213), .int 0, .int 0, .ref (q 214), .ref (q 215), .ref (q 216), .int 0, .int 0])), ((q 201), .inl (k 1, 5340, .inl at0))] := hD
  refine W.eq (g2 := F0 m 2600 ls [.int 0]) rfl ?_
  refine lv_aload_n hx hb dL_law_2600 rfl (lv_at hl 1 rfl) ?_
  refine lv_aload_n hx hb dL_law_2601 rfl (lv_at hl 3 rfl) ?_
  refine lv_iload_n hx hb dL_law_2602 rfl (lv_at hl 0 rfl) ?_
  refine lv_iconst (v := 1) hx hb dL_law_2603 (by decide) ?_
  refine lv_iadd hx hb dL_law_2604 ?_
  refine lv_topi (fun x_4 ex_4 => ?_)
  obtain rfl : x_4 = 1 := ex_4.trans (by decide +kernel)
  refine va_sld hx hb hX hbl hbA hS (xin 1 6 rfl (by decide) (by decide)) dL_law_2605 ?_
  refine W.eq (g2 := F0 m 2606 ls [.int (xs 1), .ref (q 200), .int 0]) rfl ?_
  refine lv_aload_n hx hb dL_law_2606 rfl (lv_at hl 3 rfl) ?_
  refine lv_iload_n hx hb dL_law_2607 rfl (lv_at hl 0 rfl) ?_
  refine lv_iconst (v := 2) hx hb dL_law_2608 (by decide) ?_
  refine lv_iadd hx hb dL_law_2609 ?_
  refine lv_topi (fun x_5 ex_5 => ?_)
  obtain rfl : x_5 = 2 := ex_5.trans (by decide +kernel)
  refine va_sld hx hb hX hbl hbA hS (xin 2 6 rfl (by decide) (by decide)) dL_law_2610 ?_
  refine W.eq (g2 := F0 m 2611 ls [.int (xs 2), .int (xs 1), .ref (q 200), .int 0]) rfl ?_
  refine CWV (As := [.int (xs 1), .int (xs 2)]) (rest := [.int 0]) (wc := [((q 200), .inr (12, [.ref (q 201), .ref (q 202), .int 0, .long 0, .long 1, .ref (q 203), .ref (q 204), .ref (q 205), .ref (q 206), .ref (q 207), .int 0, .int 0, .int 0, .int 0, .int 0, .int 0, .int (-1), .int (-1), .int 0, .int 0, .int 0, .ref (q 208), .int 0, .int 0, .ref (q 209), .ref (q 210), .ref (q 211), .ref (q 212), .ref (q 213), .int 0, .int 0, .ref (q 214), .ref (q 215), .ref (q 216), .int 0, .int 0])), ((q 201), .inl (k 1, 5340, .inl at0))]) (wr := []) hx hb hml hown hts hKK hP hD hS hA (r_wear l D k q (xs 1) (xs 2)) ci_X12_wear qm_L_282 ⟨Nat.le_of_ble_eq_true rfl, Nat.le_of_ble_eq_true rfl⟩ ⟨Nat.le_of_ble_eq_true rfl, Nat.le_of_ble_eq_true rfl⟩ [0, 1] [] rfl rfl rfl rfl rfl (by decide) 0 rfl rfl rfl hl.1 rfl (Nat.le_of_ble_eq_true rfl) dL_law_2611 (fun u_6 H locs hφ hP hD hS => ?_)
  have hP : va_P D vwCl [] H := hP
  have hD : va_D A [] := hD
  refine W.eq (g2 := F0 m 2614 ls [.int 0, .int 0]) rfl ?_
  refine lv_icmp_eq (tgt := 2849) hx hb dL_law_2614 (by decide) (fun _ => ?_) (fun c => absurd (by decide) c)
  exact law_done hx hb hr hlocks hX hbl hbA hAf hS (by decide) (by decide) hl
set_option maxHeartbeats 4000000 in
set_option maxRecDepth 100000 in
theorem law_c64 {p : Program} {e : Env} {s : State} {m : MethodId} {below : List Frame} {meth : Method} {c : Code} (l : Launch) {b : Nat} {xs : Nat → Int32} {A : Nat → Prop} {D : va_G} {k : Nat → ClassId} {q : Nat → Nat} {H : Heap} {locs : List Loc} {ls : Array Slot} (C : LC p s m meth c b xs A D k q H locs ls) : W p l e room_1 s m #[Value.ref b] below meth c H locs 123 16705 (lw_Z below #[Value.ref b] s) (F0 m 2619 ls []) := by
  obtain ⟨hx, hb, hr, hml, hown, hts, hKK, hX, hbl, hbA, hA, hAf, hlocks, hP, hD, hS, hl⟩ := C
  refine lv_aload_n hx hb dL_law_2619 rfl (lv_at hl 2 rfl) ?_
  refine lv_aload_n hx hb dL_law_2620 rfl (lv_at hl 3 rfl) ?_
  refine lv_iload_n hx hb dL_law_2621 rfl (lv_at hl 0 rfl) ?_
  refine lv_iconst (v := 1) hx hb dL_law_2622 (by decide) ?_
  refine lv_iadd hx hb dL_law_2623 ?_
  refine lv_topi (fun x_1 ex_1 => ?_)
  obtain rfl : x_1 = 1 := ex_1.trans (by decide +kernel)
  refine va_sld hx hb hX hbl hbA hS (xin 1 6 rfl (by decide) (by decide)) dL_law_2624 ?_
  refine W.eq (g2 := F0 m 2625 ls [.int (xs 1), .ref (q 0)]) rfl ?_
  refine lv_aload_n hx hb dL_law_2625 rfl (lv_at hl 3 rfl) ?_
  refine lv_iload_n hx hb dL_law_2626 rfl (lv_at hl 0 rfl) ?_
  refine lv_iconst (v := 2) hx hb dL_law_2627 (by decide) ?_
  refine lv_iadd hx hb dL_law_2628 ?_
  refine lv_topi (fun x_2 ex_2 => ?_)
  obtain rfl : x_2 = 2 := ex_2.trans (by decide +kernel)
  refine va_sld hx hb hX hbl hbA hS (xin 2 6 rfl (by decide) (by decide)) dL_law_2629 ?_
  refine W.eq (g2 := F0 m 2630 ls [.int (xs 2), .int (xs 1), .ref (q 0)]) rfl ?_
  refine CWV (As := [.int (xs 1), .int (xs 2)]) (rest := []) (wc := [((q 0), .inr (11, [.ref (q 1), .ref (q 2), .ref (q 3), .ref (q 4), .ref (q 5), .ref (q 6), .ref (q 7), .ref (q 8), .ref (q 9), .ref (q 10), .ref (q 11), .int 0, .int 0, .int 0, .long 0, .long 1])), ((q 2), .inr (8, [.ref (q 20), .ref (q 21), .ref (q 22)])), ((q 20), .inr (5, [.ref (q 23), .ref (q 24), .ref (q 25), .int 0, .int 0, .int 0, .int 0])), ((q 21), .inr (0, [.ref (q 26), .ref (q 27), .ref (q 28), .ref (q 29), .int 0, .int 0]))]) (wr := [((q 200), .inr (12, [.ref (q 201), .ref (q 202), .int 0, .long 0, .long 1, .ref (q 203), .ref (q 204), .ref (q 205), .ref (q 206), .ref (q 207), .int 0, .int 0, .int 0, .int 0, .int 0, .int 0, .int (-1), .int (-1), .int 0, .int 0, .int 0, .ref (q 208), .int 0, .int 0, .ref (q 209), .ref (q 210), .ref (q 211), .ref (q 212), .ref (q 213), .int 0, .int 0, .ref (q 214), .ref (q 215), .ref (q 216), .int 0, .int 0])), ((q 201), .inl (k 1, 5340, .inl at0))]) hx hb hml hown hts hKK hP hD hS hA (p_fashion l D k q (xs 1) (xs 2)) ci_X11_fashion qm_L_283 ⟨Nat.le_of_ble_eq_true rfl, Nat.le_of_ble_eq_true rfl⟩ ⟨Nat.le_of_ble_eq_true rfl, Nat.le_of_ble_eq_true rfl⟩ [0, 11, 12, 16] [66, 67] rfl rfl rfl rfl rfl (by decide) 0 rfl rfl rfl hl.1 rfl (Nat.le_of_ble_eq_true rfl) dL_law_2630 (fun u_3 H locs hφ hP hD hS => ?_)
  have hP : va_P D vwCl [((q 200), .inr (12, [.ref (q 201), .ref (q 202), .int 0, .long 0, .long 1, .ref (q 203), .ref (q 204), .ref (q 205), .ref (q 206), .ref (q 207), .int 0, .int 0, .int 0, .int 0, .int 0, .int 0, .int (-1), .int (-1), .int 0, .int 0, .int 0, .ref (q 208), .int 0, .int 0, .ref (q 209), .ref (q 210), .ref (q 211), .ref (q 212), .ref (q 213), .int 0, .int 0, .ref (q 214), .ref (q 215), .ref (q 216), .int 0, .int 0])), ((q 201), .inl (k 1, 5340, .inl at0))] H := hP
  have hD : va_D A [((q 200), .inr (12, [.ref (q 201), .ref (q 202), .int 0, .long 0, .long 1, .ref (q 203), .ref (q 204), .ref (q 205), .ref (q 206), .ref (q 207), .int 0, .int 0, .int 0, .int 0, .int 0, .int 0, .int (-1), .int (-1), .int 0, .int 0, .int 0, .ref (q 208), .int 0, .int 0, .ref (q 209), .ref (q 210), .ref (q 211), .ref (q 212), .ref (q 213), .int 0, .int 0, .ref (q 214), .ref (q 215), .ref (q 216), .int 0, .int 0])), ((q 201), .inl (k 1, 5340, .inl at0))] := hD
  refine W.eq (g2 := F0 m 2633 ls [.int (-1)]) rfl ?_
  refine lv_aload_n hx hb dL_law_2633 rfl (lv_at hl 1 rfl) ?_
  refine lv_aload_n hx hb dL_law_2634 rfl (lv_at hl 3 rfl) ?_
  refine lv_iload_n hx hb dL_law_2635 rfl (lv_at hl 0 rfl) ?_
  refine lv_iconst (v := 1) hx hb dL_law_2636 (by decide) ?_
  refine lv_iadd hx hb dL_law_2637 ?_
  refine lv_topi (fun x_4 ex_4 => ?_)
  obtain rfl : x_4 = 1 := ex_4.trans (by decide +kernel)
  refine va_sld hx hb hX hbl hbA hS (xin 1 6 rfl (by decide) (by decide)) dL_law_2638 ?_
  refine W.eq (g2 := F0 m 2639 ls [.int (xs 1), .ref (q 200), .int (-1)]) rfl ?_
  refine lv_aload_n hx hb dL_law_2639 rfl (lv_at hl 3 rfl) ?_
  refine lv_iload_n hx hb dL_law_2640 rfl (lv_at hl 0 rfl) ?_
  refine lv_iconst (v := 2) hx hb dL_law_2641 (by decide) ?_
  refine lv_iadd hx hb dL_law_2642 ?_
  refine lv_topi (fun x_5 ex_5 => ?_)
  obtain rfl : x_5 = 2 := ex_5.trans (by decide +kernel)
  refine va_sld hx hb hX hbl hbA hS (xin 2 6 rfl (by decide) (by decide)) dL_law_2643 ?_
  refine W.eq (g2 := F0 m 2644 ls [.int (xs 2), .int (xs 1), .ref (q 200), .int (-1)]) rfl ?_
  refine CWV (As := [.int (xs 1), .int (xs 2)]) (rest := [.int (-1)]) (wc := [((q 200), .inr (12, [.ref (q 201), .ref (q 202), .int 0, .long 0, .long 1, .ref (q 203), .ref (q 204), .ref (q 205), .ref (q 206), .ref (q 207), .int 0, .int 0, .int 0, .int 0, .int 0, .int 0, .int (-1), .int (-1), .int 0, .int 0, .int 0, .ref (q 208), .int 0, .int 0, .ref (q 209), .ref (q 210), .ref (q 211), .ref (q 212), .ref (q 213), .int 0, .int 0, .ref (q 214), .ref (q 215), .ref (q 216), .int 0, .int 0])), ((q 201), .inl (k 1, 5340, .inl at0))]) (wr := []) hx hb hml hown hts hKK hP hD hS hA (r_fashion l D k q (xs 1) (xs 2)) ci_X12_fashion qm_L_286 ⟨Nat.le_of_ble_eq_true rfl, Nat.le_of_ble_eq_true rfl⟩ ⟨Nat.le_of_ble_eq_true rfl, Nat.le_of_ble_eq_true rfl⟩ [0, 1] [] rfl rfl rfl rfl rfl (by decide) 0 rfl rfl rfl hl.1 rfl (Nat.le_of_ble_eq_true rfl) dL_law_2644 (fun u_6 H locs hφ hP hD hS => ?_)
  have hP : va_P D vwCl [] H := hP
  have hD : va_D A [] := hD
  refine W.eq (g2 := F0 m 2647 ls [.int (-1), .int (-1)]) rfl ?_
  refine lv_icmp_eq (tgt := 2849) hx hb dL_law_2647 (by decide) (fun _ => ?_) (fun c => absurd (by decide) c)
  exact law_done hx hb hr hlocks hX hbl hbA hAf hS (by decide) (by decide) hl
set_option maxHeartbeats 4000000 in
set_option maxRecDepth 100000 in
theorem law_c65 {p : Program} {e : Env} {s : State} {m : MethodId} {below : List Frame} {meth : Method} {c : Code} (l : Launch) {b : Nat} {xs : Nat → Int32} {A : Nat → Prop} {D : va_G} {k : Nat → ClassId} {q : Nat → Nat} {H : Heap} {locs : List Loc} {ls : Array Slot} (C : LC p s m meth c b xs A D k q H locs ls) : W p l e room_1 s m #[Value.ref b] below meth c H locs 123 16705 (lw_Z below #[Value.ref b] s) (F0 m 2652 ls []) := by
  obtain ⟨hx, hb, hr, hml, hown, hts, hKK, hX, hbl, hbA, hA, hAf, hlocks, hP, hD, hS, hl⟩ := C
  refine lv_aload_n hx hb dL_law_2652 rfl (lv_at hl 2 rfl) ?_
  refine lv_aload_n hx hb dL_law_2653 rfl (lv_at hl 3 rfl) ?_
  refine lv_iload_n hx hb dL_law_2654 rfl (lv_at hl 0 rfl) ?_
  refine lv_iconst (v := 1) hx hb dL_law_2655 (by decide) ?_
  refine lv_iadd hx hb dL_law_2656 ?_
  refine lv_topi (fun x_1 ex_1 => ?_)
  obtain rfl : x_1 = 1 := ex_1.trans (by decide +kernel)
  refine va_sld hx hb hX hbl hbA hS (xin 1 6 rfl (by decide) (by decide)) dL_law_2657 ?_
  refine W.eq (g2 := F0 m 2658 ls [.int (xs 1), .ref (q 0)]) rfl ?_
  refine lv_aload_n hx hb dL_law_2658 rfl (lv_at hl 3 rfl) ?_
  refine lv_iload_n hx hb dL_law_2659 rfl (lv_at hl 0 rfl) ?_
  refine lv_iconst (v := 2) hx hb dL_law_2660 (by decide) ?_
  refine lv_iadd hx hb dL_law_2661 ?_
  refine lv_topi (fun x_2 ex_2 => ?_)
  obtain rfl : x_2 = 2 := ex_2.trans (by decide +kernel)
  refine va_sld hx hb hX hbl hbA hS (xin 2 6 rfl (by decide) (by decide)) dL_law_2662 ?_
  refine W.eq (g2 := F0 m 2663 ls [.int (xs 2), .int (xs 1), .ref (q 0)]) rfl ?_
  refine CWV (As := [.int (xs 1), .int (xs 2)]) (rest := []) (wc := [((q 0), .inr (11, [.ref (q 1), .ref (q 2), .ref (q 3), .ref (q 4), .ref (q 5), .ref (q 6), .ref (q 7), .ref (q 8), .ref (q 9), .ref (q 10), .ref (q 11), .int 0, .int 0, .int 0, .long 0, .long 1])), ((q 2), .inr (8, [.ref (q 20), .ref (q 21), .ref (q 22)])), ((q 20), .inr (5, [.ref (q 23), .ref (q 24), .ref (q 25), .int 0, .int 0, .int 0, .int 0])), ((q 21), .inr (0, [.ref (q 26), .ref (q 27), .ref (q 28), .ref (q 29), .int 0, .int 0]))]) (wr := [((q 200), .inr (12, [.ref (q 201), .ref (q 202), .int 0, .long 0, .long 1, .ref (q 203), .ref (q 204), .ref (q 205), .ref (q 206), .ref (q 207), .int 0, .int 0, .int 0, .int 0, .int 0, .int 0, .int (-1), .int (-1), .int 0, .int 0, .int 0, .ref (q 208), .int 0, .int 0, .ref (q 209), .ref (q 210), .ref (q 211), .ref (q 212), .ref (q 213), .int 0, .int 0, .ref (q 214), .ref (q 215), .ref (q 216), .int 0, .int 0])), ((q 201), .inl (k 1, 5340, .inl at0))]) hx hb hml hown hts hKK hP hD hS hA (p_follows l D k q (xs 1) (xs 2)) ci_X11_follows qm_L_287 ⟨Nat.le_of_ble_eq_true rfl, Nat.le_of_ble_eq_true rfl⟩ ⟨Nat.le_of_ble_eq_true rfl, Nat.le_of_ble_eq_true rfl⟩ [0, 11, 12, 16] [66, 67] rfl rfl rfl rfl rfl (by decide) 0 rfl rfl rfl hl.1 rfl (Nat.le_of_ble_eq_true rfl) dL_law_2663 (fun u_3 H locs hφ hP hD hS => ?_)
  have hP : va_P D vwCl [((q 200), .inr (12, [.ref (q 201), .ref (q 202), .int 0, .long 0, .long 1, .ref (q 203), .ref (q 204), .ref (q 205), .ref (q 206), .ref (q 207), .int 0, .int 0, .int 0, .int 0, .int 0, .int 0, .int (-1), .int (-1), .int 0, .int 0, .int 0, .ref (q 208), .int 0, .int 0, .ref (q 209), .ref (q 210), .ref (q 211), .ref (q 212), .ref (q 213), .int 0, .int 0, .ref (q 214), .ref (q 215), .ref (q 216), .int 0, .int 0])), ((q 201), .inl (k 1, 5340, .inl at0))] H := hP
  have hD : va_D A [((q 200), .inr (12, [.ref (q 201), .ref (q 202), .int 0, .long 0, .long 1, .ref (q 203), .ref (q 204), .ref (q 205), .ref (q 206), .ref (q 207), .int 0, .int 0, .int 0, .int 0, .int 0, .int 0, .int (-1), .int (-1), .int 0, .int 0, .int 0, .ref (q 208), .int 0, .int 0, .ref (q 209), .ref (q 210), .ref (q 211), .ref (q 212), .ref (q 213), .int 0, .int 0, .ref (q 214), .ref (q 215), .ref (q 216), .int 0, .int 0])), ((q 201), .inl (k 1, 5340, .inl at0))] := hD
  refine W.eq (g2 := F0 m 2666 ls [.int (-1)]) rfl ?_
  refine lv_aload_n hx hb dL_law_2666 rfl (lv_at hl 1 rfl) ?_
  refine lv_aload_n hx hb dL_law_2667 rfl (lv_at hl 3 rfl) ?_
  refine lv_iload_n hx hb dL_law_2668 rfl (lv_at hl 0 rfl) ?_
  refine lv_iconst (v := 1) hx hb dL_law_2669 (by decide) ?_
  refine lv_iadd hx hb dL_law_2670 ?_
  refine lv_topi (fun x_4 ex_4 => ?_)
  obtain rfl : x_4 = 1 := ex_4.trans (by decide +kernel)
  refine va_sld hx hb hX hbl hbA hS (xin 1 6 rfl (by decide) (by decide)) dL_law_2671 ?_
  refine W.eq (g2 := F0 m 2672 ls [.int (xs 1), .ref (q 200), .int (-1)]) rfl ?_
  refine lv_aload_n hx hb dL_law_2672 rfl (lv_at hl 3 rfl) ?_
  refine lv_iload_n hx hb dL_law_2673 rfl (lv_at hl 0 rfl) ?_
  refine lv_iconst (v := 2) hx hb dL_law_2674 (by decide) ?_
  refine lv_iadd hx hb dL_law_2675 ?_
  refine lv_topi (fun x_5 ex_5 => ?_)
  obtain rfl : x_5 = 2 := ex_5.trans (by decide +kernel)
  refine va_sld hx hb hX hbl hbA hS (xin 2 6 rfl (by decide) (by decide)) dL_law_2676 ?_
  refine W.eq (g2 := F0 m 2677 ls [.int (xs 2), .int (xs 1), .ref (q 200), .int (-1)]) rfl ?_
  refine CWV (As := [.int (xs 1), .int (xs 2)]) (rest := [.int (-1)]) (wc := [((q 200), .inr (12, [.ref (q 201), .ref (q 202), .int 0, .long 0, .long 1, .ref (q 203), .ref (q 204), .ref (q 205), .ref (q 206), .ref (q 207), .int 0, .int 0, .int 0, .int 0, .int 0, .int 0, .int (-1), .int (-1), .int 0, .int 0, .int 0, .ref (q 208), .int 0, .int 0, .ref (q 209), .ref (q 210), .ref (q 211), .ref (q 212), .ref (q 213), .int 0, .int 0, .ref (q 214), .ref (q 215), .ref (q 216), .int 0, .int 0])), ((q 201), .inl (k 1, 5340, .inl at0))]) (wr := []) hx hb hml hown hts hKK hP hD hS hA (r_follows l D k q (xs 1) (xs 2)) ci_X12_follows qm_L_290 ⟨Nat.le_of_ble_eq_true rfl, Nat.le_of_ble_eq_true rfl⟩ ⟨Nat.le_of_ble_eq_true rfl, Nat.le_of_ble_eq_true rfl⟩ [0, 1] [] rfl rfl rfl rfl rfl (by decide) 0 rfl rfl rfl hl.1 rfl (Nat.le_of_ble_eq_true rfl) dL_law_2677 (fun u_6 H locs hφ hP hD hS => ?_)
  have hP : va_P D vwCl [] H := hP
  have hD : va_D A [] := hD
  refine W.eq (g2 := F0 m 2680 ls [.int (-1), .int (-1)]) rfl ?_
  refine lv_icmp_eq (tgt := 2849) hx hb dL_law_2680 (by decide) (fun _ => ?_) (fun c => absurd (by decide) c)
  exact law_done hx hb hr hlocks hX hbl hbA hAf hS (by decide) (by decide) hl
set_option maxHeartbeats 4000000 in
set_option maxRecDepth 100000 in
theorem law_c66 {p : Program} {e : Env} {s : State} {m : MethodId} {below : List Frame} {meth : Method} {c : Code} (l : Launch) {b : Nat} {xs : Nat → Int32} {A : Nat → Prop} {D : va_G} {k : Nat → ClassId} {q : Nat → Nat} {H : Heap} {locs : List Loc} {ls : Array Slot} (C : LC p s m meth c b xs A D k q H locs ls) : W p l e room_1 s m #[Value.ref b] below meth c H locs 123 16705 (lw_Z below #[Value.ref b] s) (F0 m 2685 ls []) := by
  obtain ⟨hx, hb, hr, hml, hown, hts, hKK, hX, hbl, hbA, hA, hAf, hlocks, hP, hD, hS, hl⟩ := C
  refine lv_aload_n hx hb dL_law_2685 rfl (lv_at hl 2 rfl) ?_
  refine lv_aload_n hx hb dL_law_2686 rfl (lv_at hl 3 rfl) ?_
  refine lv_iload_n hx hb dL_law_2687 rfl (lv_at hl 0 rfl) ?_
  refine lv_iconst (v := 1) hx hb dL_law_2688 (by decide) ?_
  refine lv_iadd hx hb dL_law_2689 ?_
  refine lv_topi (fun x_1 ex_1 => ?_)
  obtain rfl : x_1 = 1 := ex_1.trans (by decide +kernel)
  refine va_sld hx hb hX hbl hbA hS (xin 1 6 rfl (by decide) (by decide)) dL_law_2690 ?_
  refine W.eq (g2 := F0 m 2691 ls [.int (xs 1), .ref (q 0)]) rfl ?_
  refine CWV (As := [.int (xs 1)]) (rest := []) (wc := [((q 0), .inr (11, [.ref (q 1), .ref (q 2), .ref (q 3), .ref (q 4), .ref (q 5), .ref (q 6), .ref (q 7), .ref (q 8), .ref (q 9), .ref (q 10), .ref (q 11), .int 0, .int 0, .int 0, .long 0, .long 1])), ((q 2), .inr (8, [.ref (q 20), .ref (q 21), .ref (q 22)])), ((q 20), .inr (5, [.ref (q 23), .ref (q 24), .ref (q 25), .int 0, .int 0, .int 0, .int 0])), ((q 21), .inr (0, [.ref (q 26), .ref (q 27), .ref (q 28), .ref (q 29), .int 0, .int 0]))]) (wr := [((q 200), .inr (12, [.ref (q 201), .ref (q 202), .int 0, .long 0, .long 1, .ref (q 203), .ref (q 204), .ref (q 205), .ref (q 206), .ref (q 207), .int 0, .int 0, .int 0, .int 0, .int 0, .int 0, .int (-1), .int (-1), .int 0, .int 0, .int 0, .ref (q 208), .int 0, .int 0, .ref (q 209), .ref (q 210), .ref (q 211), .ref (q 212), .ref (q 213), .int 0, .int 0, .ref (q 214), .ref (q 215), .ref (q 216), .int 0, .int 0])), ((q 201), .inl (k 1, 5340, .inl at0))]) hx hb hml hown hts hKK hP hD hS hA (p_model l D k q (xs 1)) ci_X11_model qm_L_291 ⟨Nat.le_of_ble_eq_true rfl, Nat.le_of_ble_eq_true rfl⟩ ⟨Nat.le_of_ble_eq_true rfl, Nat.le_of_ble_eq_true rfl⟩ [0, 11, 12, 16] [66, 67] rfl rfl rfl rfl rfl (by decide) 0 rfl rfl rfl hl.1 rfl (Nat.le_of_ble_eq_true rfl) dL_law_2691 (fun u_2 H locs hφ hP hD hS => ?_)
  have hP : va_P D vwCl [((q 200), .inr (12, [.ref (q 201), .ref (q 202), .int 0, .long 0, .long 1, .ref (q 203), .ref (q 204), .ref (q 205), .ref (q 206), .ref (q 207), .int 0, .int 0, .int 0, .int 0, .int 0, .int 0, .int (-1), .int (-1), .int 0, .int 0, .int 0, .ref (q 208), .int 0, .int 0, .ref (q 209), .ref (q 210), .ref (q 211), .ref (q 212), .ref (q 213), .int 0, .int 0, .ref (q 214), .ref (q 215), .ref (q 216), .int 0, .int 0])), ((q 201), .inl (k 1, 5340, .inl at0))] H := hP
  have hD : va_D A [((q 200), .inr (12, [.ref (q 201), .ref (q 202), .int 0, .long 0, .long 1, .ref (q 203), .ref (q 204), .ref (q 205), .ref (q 206), .ref (q 207), .int 0, .int 0, .int 0, .int 0, .int 0, .int 0, .int (-1), .int (-1), .int 0, .int 0, .int 0, .ref (q 208), .int 0, .int 0, .ref (q 209), .ref (q 210), .ref (q 211), .ref (q 212), .ref (q 213), .int 0, .int 0, .ref (q 214), .ref (q 215), .ref (q 216), .int 0, .int 0])), ((q 201), .inl (k 1, 5340, .inl at0))] := hD
  refine W.eq (g2 := F0 m 2694 ls [.int (-1)]) rfl ?_
  refine lv_aload_n hx hb dL_law_2694 rfl (lv_at hl 1 rfl) ?_
  refine lv_aload_n hx hb dL_law_2695 rfl (lv_at hl 3 rfl) ?_
  refine lv_iload_n hx hb dL_law_2696 rfl (lv_at hl 0 rfl) ?_
  refine lv_iconst (v := 1) hx hb dL_law_2697 (by decide) ?_
  refine lv_iadd hx hb dL_law_2698 ?_
  refine lv_topi (fun x_3 ex_3 => ?_)
  obtain rfl : x_3 = 1 := ex_3.trans (by decide +kernel)
  refine va_sld hx hb hX hbl hbA hS (xin 1 6 rfl (by decide) (by decide)) dL_law_2699 ?_
  refine W.eq (g2 := F0 m 2700 ls [.int (xs 1), .ref (q 200), .int (-1)]) rfl ?_
  refine CWV (As := [.int (xs 1)]) (rest := [.int (-1)]) (wc := [((q 200), .inr (12, [.ref (q 201), .ref (q 202), .int 0, .long 0, .long 1, .ref (q 203), .ref (q 204), .ref (q 205), .ref (q 206), .ref (q 207), .int 0, .int 0, .int 0, .int 0, .int 0, .int 0, .int (-1), .int (-1), .int 0, .int 0, .int 0, .ref (q 208), .int 0, .int 0, .ref (q 209), .ref (q 210), .ref (q 211), .ref (q 212), .ref (q 213), .int 0, .int 0, .ref (q 214), .ref (q 215), .ref (q 216), .int 0, .int 0])), ((q 201), .inl (k 1, 5340, .inl at0))]) (wr := []) hx hb hml hown hts hKK hP hD hS hA (r_model l D k q (xs 1)) ci_X12_model qm_L_294 ⟨Nat.le_of_ble_eq_true rfl, Nat.le_of_ble_eq_true rfl⟩ ⟨Nat.le_of_ble_eq_true rfl, Nat.le_of_ble_eq_true rfl⟩ [0, 1] [] rfl rfl rfl rfl rfl (by decide) 0 rfl rfl rfl hl.1 rfl (Nat.le_of_ble_eq_true rfl) dL_law_2700 (fun u_4 H locs hφ hP hD hS => ?_)
  have hP : va_P D vwCl [] H := hP
  have hD : va_D A [] := hD
  refine W.eq (g2 := F0 m 2703 ls [.int (-1), .int (-1)]) rfl ?_
  refine lv_icmp_eq (tgt := 2849) hx hb dL_law_2703 (by decide) (fun _ => ?_) (fun c => absurd (by decide) c)
  exact law_done hx hb hr hlocks hX hbl hbA hAf hS (by decide) (by decide) hl
set_option maxHeartbeats 4000000 in
set_option maxRecDepth 100000 in
theorem law_c67 {p : Program} {e : Env} {s : State} {m : MethodId} {below : List Frame} {meth : Method} {c : Code} (l : Launch) {b : Nat} {xs : Nat → Int32} {A : Nat → Prop} {D : va_G} {k : Nat → ClassId} {q : Nat → Nat} {H : Heap} {locs : List Loc} {ls : Array Slot} (C : LC p s m meth c b xs A D k q H locs ls) : W p l e room_1 s m #[Value.ref b] below meth c H locs 123 16705 (lw_Z below #[Value.ref b] s) (F0 m 2708 ls []) := by
  obtain ⟨hx, hb, hr, hml, hown, hts, hKK, hX, hbl, hbA, hA, hAf, hlocks, hP, hD, hS, hl⟩ := C
  refine lv_aload_n hx hb dL_law_2708 rfl (lv_at hl 2 rfl) ?_
  refine lv_aload_n hx hb dL_law_2709 rfl (lv_at hl 3 rfl) ?_
  refine lv_iload_n hx hb dL_law_2710 rfl (lv_at hl 0 rfl) ?_
  refine lv_iconst (v := 1) hx hb dL_law_2711 (by decide) ?_
  refine lv_iadd hx hb dL_law_2712 ?_
  refine lv_topi (fun x_1 ex_1 => ?_)
  obtain rfl : x_1 = 1 := ex_1.trans (by decide +kernel)
  refine va_sld hx hb hX hbl hbA hS (xin 1 6 rfl (by decide) (by decide)) dL_law_2713 ?_
  refine W.eq (g2 := F0 m 2714 ls [.int (xs 1), .ref (q 0)]) rfl ?_
  refine CWV (As := [.int (xs 1)]) (rest := []) (wc := [((q 0), .inr (11, [.ref (q 1), .ref (q 2), .ref (q 3), .ref (q 4), .ref (q 5), .ref (q 6), .ref (q 7), .ref (q 8), .ref (q 9), .ref (q 10), .ref (q 11), .int 0, .int 0, .int 0, .long 0, .long 1])), ((q 2), .inr (8, [.ref (q 20), .ref (q 21), .ref (q 22)])), ((q 20), .inr (5, [.ref (q 23), .ref (q 24), .ref (q 25), .int 0, .int 0, .int 0, .int 0])), ((q 21), .inr (0, [.ref (q 26), .ref (q 27), .ref (q 28), .ref (q 29), .int 0, .int 0]))]) (wr := [((q 200), .inr (12, [.ref (q 201), .ref (q 202), .int 0, .long 0, .long 1, .ref (q 203), .ref (q 204), .ref (q 205), .ref (q 206), .ref (q 207), .int 0, .int 0, .int 0, .int 0, .int 0, .int 0, .int (-1), .int (-1), .int 0, .int 0, .int 0, .ref (q 208), .int 0, .int 0, .ref (q 209), .ref (q 210), .ref (q 211), .ref (q 212), .ref (q 213), .int 0, .int 0, .ref (q 214), .ref (q 215), .ref (q 216), .int 0, .int 0])), ((q 201), .inl (k 1, 5340, .inl at0))]) hx hb hml hown hts hKK hP hD hS hA (p_changes l D k q (xs 1)) ci_X11_changes qm_L_295 ⟨Nat.le_of_ble_eq_true rfl, Nat.le_of_ble_eq_true rfl⟩ ⟨Nat.le_of_ble_eq_true rfl, Nat.le_of_ble_eq_true rfl⟩ [0, 11, 12, 16] [66, 67] rfl rfl rfl rfl rfl (by decide) 0 rfl rfl rfl hl.1 rfl (Nat.le_of_ble_eq_true rfl) dL_law_2714 (fun u_2 H locs hφ hP hD hS => ?_)
  have hP : va_P D vwCl [((q 200), .inr (12, [.ref (q 201), .ref (q 202), .int 0, .long 0, .long 1, .ref (q 203), .ref (q 204), .ref (q 205), .ref (q 206), .ref (q 207), .int 0, .int 0, .int 0, .int 0, .int 0, .int 0, .int (-1), .int (-1), .int 0, .int 0, .int 0, .ref (q 208), .int 0, .int 0, .ref (q 209), .ref (q 210), .ref (q 211), .ref (q 212), .ref (q 213), .int 0, .int 0, .ref (q 214), .ref (q 215), .ref (q 216), .int 0, .int 0])), ((q 201), .inl (k 1, 5340, .inl at0))] H := hP
  have hD : va_D A [((q 200), .inr (12, [.ref (q 201), .ref (q 202), .int 0, .long 0, .long 1, .ref (q 203), .ref (q 204), .ref (q 205), .ref (q 206), .ref (q 207), .int 0, .int 0, .int 0, .int 0, .int 0, .int 0, .int (-1), .int (-1), .int 0, .int 0, .int 0, .ref (q 208), .int 0, .int 0, .ref (q 209), .ref (q 210), .ref (q 211), .ref (q 212), .ref (q 213), .int 0, .int 0, .ref (q 214), .ref (q 215), .ref (q 216), .int 0, .int 0])), ((q 201), .inl (k 1, 5340, .inl at0))] := hD
  refine W.eq (g2 := F0 m 2717 ls [.int (-1)]) rfl ?_
  refine lv_aload_n hx hb dL_law_2717 rfl (lv_at hl 1 rfl) ?_
  refine lv_aload_n hx hb dL_law_2718 rfl (lv_at hl 3 rfl) ?_
  refine lv_iload_n hx hb dL_law_2719 rfl (lv_at hl 0 rfl) ?_
  refine lv_iconst (v := 1) hx hb dL_law_2720 (by decide) ?_
  refine lv_iadd hx hb dL_law_2721 ?_
  refine lv_topi (fun x_3 ex_3 => ?_)
  obtain rfl : x_3 = 1 := ex_3.trans (by decide +kernel)
  refine va_sld hx hb hX hbl hbA hS (xin 1 6 rfl (by decide) (by decide)) dL_law_2722 ?_
  refine W.eq (g2 := F0 m 2723 ls [.int (xs 1), .ref (q 200), .int (-1)]) rfl ?_
  refine CWV (As := [.int (xs 1)]) (rest := [.int (-1)]) (wc := [((q 200), .inr (12, [.ref (q 201), .ref (q 202), .int 0, .long 0, .long 1, .ref (q 203), .ref (q 204), .ref (q 205), .ref (q 206), .ref (q 207), .int 0, .int 0, .int 0, .int 0, .int 0, .int 0, .int (-1), .int (-1), .int 0, .int 0, .int 0, .ref (q 208), .int 0, .int 0, .ref (q 209), .ref (q 210), .ref (q 211), .ref (q 212), .ref (q 213), .int 0, .int 0, .ref (q 214), .ref (q 215), .ref (q 216), .int 0, .int 0])), ((q 201), .inl (k 1, 5340, .inl at0))]) (wr := []) hx hb hml hown hts hKK hP hD hS hA (r_changes l D k q (xs 1)) ci_X12_changes qm_L_298 ⟨Nat.le_of_ble_eq_true rfl, Nat.le_of_ble_eq_true rfl⟩ ⟨Nat.le_of_ble_eq_true rfl, Nat.le_of_ble_eq_true rfl⟩ [0, 1] [] rfl rfl rfl rfl rfl (by decide) 0 rfl rfl rfl hl.1 rfl (Nat.le_of_ble_eq_true rfl) dL_law_2723 (fun u_4 H locs hφ hP hD hS => ?_)
  have hP : va_P D vwCl [] H := hP
  have hD : va_D A [] := hD
  refine W.eq (g2 := F0 m 2726 ls [.int (-1), .int (-1)]) rfl ?_
  refine lv_icmp_eq (tgt := 2849) hx hb dL_law_2726 (by decide) (fun _ => ?_) (fun c => absurd (by decide) c)
  exact law_done hx hb hr hlocks hX hbl hbA hAf hS (by decide) (by decide) hl
set_option maxHeartbeats 4000000 in
set_option maxRecDepth 100000 in
theorem law_c68 {p : Program} {e : Env} {s : State} {m : MethodId} {below : List Frame} {meth : Method} {c : Code} (l : Launch) {b : Nat} {xs : Nat → Int32} {A : Nat → Prop} {D : va_G} {k : Nat → ClassId} {q : Nat → Nat} {H : Heap} {locs : List Loc} {ls : Array Slot} (C : LC p s m meth c b xs A D k q H locs ls) : W p l e room_1 s m #[Value.ref b] below meth c H locs 123 16705 (lw_Z below #[Value.ref b] s) (F0 m 2731 ls []) := by
  obtain ⟨hx, hb, hr, hml, hown, hts, hKK, hX, hbl, hbA, hA, hAf, hlocks, hP, hD, hS, hl⟩ := C
  refine lv_aload_n hx hb dL_law_2731 rfl (lv_at hl 2 rfl) ?_
  refine CWV (As := []) (rest := []) (wc := [((q 0), .inr (11, [.ref (q 1), .ref (q 2), .ref (q 3), .ref (q 4), .ref (q 5), .ref (q 6), .ref (q 7), .ref (q 8), .ref (q 9), .ref (q 10), .ref (q 11), .int 0, .int 0, .int 0, .long 0, .long 1])), ((q 2), .inr (8, [.ref (q 20), .ref (q 21), .ref (q 22)])), ((q 20), .inr (5, [.ref (q 23), .ref (q 24), .ref (q 25), .int 0, .int 0, .int 0, .int 0])), ((q 21), .inr (0, [.ref (q 26), .ref (q 27), .ref (q 28), .ref (q 29), .int 0, .int 0])), ((q 26), .inl (k 1, 401, .inl (fun _ => 0)))]) (wr := [((q 200), .inr (12, [.ref (q 201), .ref (q 202), .int 0, .long 0, .long 1, .ref (q 203), .ref (q 204), .ref (q 205), .ref (q 206), .ref (q 207), .int 0, .int 0, .int 0, .int 0, .int 0, .int 0, .int (-1), .int (-1), .int 0, .int 0, .int 0, .ref (q 208), .int 0, .int 0, .ref (q 209), .ref (q 210), .ref (q 211), .ref (q 212), .ref (q 213), .int 0, .int 0, .ref (q 214), .ref (q 215), .ref (q 216), .int 0, .int 0])), ((q 201), .inl (k 1, 5340, .inl at0))]) hx hb hml hown hts hKK hP hD hS hA (p_uniform l D k q) ci_X11_uniform qm_L_299 ⟨Nat.le_of_ble_eq_true rfl, Nat.le_of_ble_eq_true rfl⟩ ⟨Nat.le_of_ble_eq_true rfl, Nat.le_of_ble_eq_true rfl⟩ [0, 11, 12, 16, 17] [66, 67] rfl rfl rfl rfl rfl (by decide) 0 rfl rfl rfl hl.1 rfl (Nat.le_of_ble_eq_true rfl) dL_law_2732 (fun u_1 H locs hφ hP hD hS => ?_)
  have hP : va_P D vwCl [((q 200), .inr (12, [.ref (q 201), .ref (q 202), .int 0, .long 0, .long 1, .ref (q 203), .ref (q 204), .ref (q 205), .ref (q 206), .ref (q 207), .int 0, .int 0, .int 0, .int 0, .int 0, .int 0, .int (-1), .int (-1), .int 0, .int 0, .int 0, .ref (q 208), .int 0, .int 0, .ref (q 209), .ref (q 210), .ref (q 211), .ref (q 212), .ref (q 213), .int 0, .int 0, .ref (q 214), .ref (q 215), .ref (q 216), .int 0, .int 0])), ((q 201), .inl (k 1, 5340, .inl at0))] H := hP
  have hD : va_D A [((q 200), .inr (12, [.ref (q 201), .ref (q 202), .int 0, .long 0, .long 1, .ref (q 203), .ref (q 204), .ref (q 205), .ref (q 206), .ref (q 207), .int 0, .int 0, .int 0, .int 0, .int 0, .int 0, .int (-1), .int (-1), .int 0, .int 0, .int 0, .ref (q 208), .int 0, .int 0, .ref (q 209), .ref (q 210), .ref (q 211), .ref (q 212), .ref (q 213), .int 0, .int 0, .ref (q 214), .ref (q 215), .ref (q 216), .int 0, .int 0])), ((q 201), .inl (k 1, 5340, .inl at0))] := hD
  refine W.eq (g2 := F0 m 2735 ls [.int 1]) rfl ?_
  refine lv_aload_n hx hb dL_law_2735 rfl (lv_at hl 1 rfl) ?_
  refine CWV (As := []) (rest := [.int 1]) (wc := [((q 200), .inr (12, [.ref (q 201), .ref (q 202), .int 0, .long 0, .long 1, .ref (q 203), .ref (q 204), .ref (q 205), .ref (q 206), .ref (q 207), .int 0, .int 0, .int 0, .int 0, .int 0, .int 0, .int (-1), .int (-1), .int 0, .int 0, .int 0, .ref (q 208), .int 0, .int 0, .ref (q 209), .ref (q 210), .ref (q 211), .ref (q 212), .ref (q 213), .int 0, .int 0, .ref (q 214), .ref (q 215), .ref (q 216), .int 0, .int 0])), ((q 201), .inl (k 1, 5340, .inl at0))]) (wr := []) hx hb hml hown hts hKK hP hD hS hA (r_uniform l D k q) ci_X12_uniform qm_L_302 ⟨Nat.le_of_ble_eq_true rfl, Nat.le_of_ble_eq_true rfl⟩ ⟨Nat.le_of_ble_eq_true rfl, Nat.le_of_ble_eq_true rfl⟩ [0, 1] [] rfl rfl rfl rfl rfl (by decide) 0 rfl rfl rfl hl.1 rfl (Nat.le_of_ble_eq_true rfl) dL_law_2736 (fun u_2 H locs hφ hP hD hS => ?_)
  have hP : va_P D vwCl [] H := hP
  have hD : va_D A [] := hD
  refine W.eq (g2 := F0 m 2739 ls [.int 1, .int 1]) rfl ?_
  refine lv_icmp_eq (tgt := 2849) hx hb dL_law_2739 (by decide) (fun _ => ?_) (fun c => absurd (by decide) c)
  exact law_done hx hb hr hlocks hX hbl hbA hAf hS (by decide) (by decide) hl
set_option maxHeartbeats 4000000 in
set_option maxRecDepth 100000 in
theorem law_c69 {p : Program} {e : Env} {s : State} {m : MethodId} {below : List Frame} {meth : Method} {c : Code} (l : Launch) {b : Nat} {xs : Nat → Int32} {A : Nat → Prop} {D : va_G} {k : Nat → ClassId} {q : Nat → Nat} {H : Heap} {locs : List Loc} {ls : Array Slot} (C : LC p s m meth c b xs A D k q H locs ls) : W p l e room_1 s m #[Value.ref b] below meth c H locs 123 16705 (lw_Z below #[Value.ref b] s) (F0 m 2744 ls []) := by
  obtain ⟨hx, hb, hr, hml, hown, hts, hKK, hX, hbl, hbA, hA, hAf, hlocks, hP, hD, hS, hl⟩ := C
  refine lv_aload_n hx hb dL_law_2744 rfl (lv_at hl 2 rfl) ?_
  refine lv_aload_n hx hb dL_law_2745 rfl (lv_at hl 3 rfl) ?_
  refine lv_iload_n hx hb dL_law_2746 rfl (lv_at hl 0 rfl) ?_
  refine lv_iconst (v := 1) hx hb dL_law_2747 (by decide) ?_
  refine lv_iadd hx hb dL_law_2748 ?_
  refine lv_topi (fun x_1 ex_1 => ?_)
  obtain rfl : x_1 = 1 := ex_1.trans (by decide +kernel)
  refine va_sld hx hb hX hbl hbA hS (xin 1 6 rfl (by decide) (by decide)) dL_law_2749 ?_
  refine W.eq (g2 := F0 m 2750 ls [.int (xs 1), .ref (q 0)]) rfl ?_
  refine CWV (As := [.int (xs 1)]) (rest := []) (wc := [((q 0), .inr (11, [.ref (q 1), .ref (q 2), .ref (q 3), .ref (q 4), .ref (q 5), .ref (q 6), .ref (q 7), .ref (q 8), .ref (q 9), .ref (q 10), .ref (q 11), .int 0, .int 0, .int 0, .long 0, .long 1])), ((q 2), .inr (8, [.ref (q 20), .ref (q 21), .ref (q 22)])), ((q 20), .inr (5, [.ref (q 23), .ref (q 24), .ref (q 25), .int 0, .int 0, .int 0, .int 0])), ((q 21), .inr (0, [.ref (q 26), .ref (q 27), .ref (q 28), .ref (q 29), .int 0, .int 0])), ((q 22), .inr (9, [.ref (q 30), .ref (q 31), .ref (q 32), .ref (q 33), .ref (q 34), .int 0, .int 0, .int 0]))]) (wr := [((q 200), .inr (12, [.ref (q 201), .ref (q 202), .int 0, .long 0, .long 1, .ref (q 203), .ref (q 204), .ref (q 205), .ref (q 206), .ref (q 207), .int 0, .int 0, .int 0, .int 0, .int 0, .int 0, .int (-1), .int (-1), .int 0, .int 0, .int 0, .ref (q 208), .int 0, .int 0, .ref (q 209), .ref (q 210), .ref (q 211), .ref (q 212), .ref (q 213), .int 0, .int 0, .ref (q 214), .ref (q 215), .ref (q 216), .int 0, .int 0])), ((q 201), .inl (k 1, 5340, .inl at0))]) hx hb hml hown hts hKK hP hD hS hA (p_live l D k q (xs 1)) ci_X11_live qm_L_303 ⟨Nat.le_of_ble_eq_true rfl, Nat.le_of_ble_eq_true rfl⟩ ⟨Nat.le_of_ble_eq_true rfl, Nat.le_of_ble_eq_true rfl⟩ [0, 11, 12, 16, 21] [66, 67] rfl rfl rfl rfl rfl (by decide) 0 rfl rfl rfl hl.1 rfl (Nat.le_of_ble_eq_true rfl) dL_law_2750 (fun u_2 H locs hφ hP hD hS => ?_)
  have hP : va_P D vwCl [((q 200), .inr (12, [.ref (q 201), .ref (q 202), .int 0, .long 0, .long 1, .ref (q 203), .ref (q 204), .ref (q 205), .ref (q 206), .ref (q 207), .int 0, .int 0, .int 0, .int 0, .int 0, .int 0, .int (-1), .int (-1), .int 0, .int 0, .int 0, .ref (q 208), .int 0, .int 0, .ref (q 209), .ref (q 210), .ref (q 211), .ref (q 212), .ref (q 213), .int 0, .int 0, .ref (q 214), .ref (q 215), .ref (q 216), .int 0, .int 0])), ((q 201), .inl (k 1, 5340, .inl at0))] H := hP
  have hD : va_D A [((q 200), .inr (12, [.ref (q 201), .ref (q 202), .int 0, .long 0, .long 1, .ref (q 203), .ref (q 204), .ref (q 205), .ref (q 206), .ref (q 207), .int 0, .int 0, .int 0, .int 0, .int 0, .int 0, .int (-1), .int (-1), .int 0, .int 0, .int 0, .ref (q 208), .int 0, .int 0, .ref (q 209), .ref (q 210), .ref (q 211), .ref (q 212), .ref (q 213), .int 0, .int 0, .ref (q 214), .ref (q 215), .ref (q 216), .int 0, .int 0])), ((q 201), .inl (k 1, 5340, .inl at0))] := hD
  refine W.eq (g2 := F0 m 2753 ls [.int (-1)]) rfl ?_
  refine lv_aload_n hx hb dL_law_2753 rfl (lv_at hl 1 rfl) ?_
  refine lv_aload_n hx hb dL_law_2754 rfl (lv_at hl 3 rfl) ?_
  refine lv_iload_n hx hb dL_law_2755 rfl (lv_at hl 0 rfl) ?_
  refine lv_iconst (v := 1) hx hb dL_law_2756 (by decide) ?_
  refine lv_iadd hx hb dL_law_2757 ?_
  refine lv_topi (fun x_3 ex_3 => ?_)
  obtain rfl : x_3 = 1 := ex_3.trans (by decide +kernel)
  refine va_sld hx hb hX hbl hbA hS (xin 1 6 rfl (by decide) (by decide)) dL_law_2758 ?_
  refine W.eq (g2 := F0 m 2759 ls [.int (xs 1), .ref (q 200), .int (-1)]) rfl ?_
  refine CWV (As := [.int (xs 1)]) (rest := [.int (-1)]) (wc := [((q 200), .inr (12, [.ref (q 201), .ref (q 202), .int 0, .long 0, .long 1, .ref (q 203), .ref (q 204), .ref (q 205), .ref (q 206), .ref (q 207), .int 0, .int 0, .int 0, .int 0, .int 0, .int 0, .int (-1), .int (-1), .int 0, .int 0, .int 0, .ref (q 208), .int 0, .int 0, .ref (q 209), .ref (q 210), .ref (q 211), .ref (q 212), .ref (q 213), .int 0, .int 0, .ref (q 214), .ref (q 215), .ref (q 216), .int 0, .int 0])), ((q 201), .inl (k 1, 5340, .inl at0))]) (wr := []) hx hb hml hown hts hKK hP hD hS hA (r_live l D k q (xs 1)) ci_X12_live qm_L_306 ⟨Nat.le_of_ble_eq_true rfl, Nat.le_of_ble_eq_true rfl⟩ ⟨Nat.le_of_ble_eq_true rfl, Nat.le_of_ble_eq_true rfl⟩ [0, 1] [] rfl rfl rfl rfl rfl (by decide) 0 rfl rfl rfl hl.1 rfl (Nat.le_of_ble_eq_true rfl) dL_law_2759 (fun u_4 H locs hφ hP hD hS => ?_)
  have hP : va_P D vwCl [] H := hP
  have hD : va_D A [] := hD
  refine W.eq (g2 := F0 m 2762 ls [.int (-1), .int (-1)]) rfl ?_
  refine lv_icmp_eq (tgt := 2849) hx hb dL_law_2762 (by decide) (fun _ => ?_) (fun c => absurd (by decide) c)
  exact law_done hx hb hr hlocks hX hbl hbA hAf hS (by decide) (by decide) hl
set_option maxHeartbeats 4000000 in
set_option maxRecDepth 100000 in
theorem law_c70 {p : Program} {e : Env} {s : State} {m : MethodId} {below : List Frame} {meth : Method} {c : Code} (l : Launch) {b : Nat} {xs : Nat → Int32} {A : Nat → Prop} {D : va_G} {k : Nat → ClassId} {q : Nat → Nat} {H : Heap} {locs : List Loc} {ls : Array Slot} (C : LC p s m meth c b xs A D k q H locs ls) : W p l e room_1 s m #[Value.ref b] below meth c H locs 123 16705 (lw_Z below #[Value.ref b] s) (F0 m 2767 ls []) := by
  obtain ⟨hx, hb, hr, hml, hown, hts, hKK, hX, hbl, hbA, hA, hAf, hlocks, hP, hD, hS, hl⟩ := C
  refine lv_aload_n hx hb dL_law_2767 rfl (lv_at hl 2 rfl) ?_
  refine lv_aload_n hx hb dL_law_2768 rfl (lv_at hl 3 rfl) ?_
  refine lv_iload_n hx hb dL_law_2769 rfl (lv_at hl 0 rfl) ?_
  refine lv_iconst (v := 1) hx hb dL_law_2770 (by decide) ?_
  refine lv_iadd hx hb dL_law_2771 ?_
  refine lv_topi (fun x_1 ex_1 => ?_)
  obtain rfl : x_1 = 1 := ex_1.trans (by decide +kernel)
  refine va_sld hx hb hX hbl hbA hS (xin 1 6 rfl (by decide) (by decide)) dL_law_2772 ?_
  refine W.eq (g2 := F0 m 2773 ls [.int (xs 1), .ref (q 0)]) rfl ?_
  refine CWV (As := [.int (xs 1)]) (rest := []) (wc := [((q 0), .inr (11, [.ref (q 1), .ref (q 2), .ref (q 3), .ref (q 4), .ref (q 5), .ref (q 6), .ref (q 7), .ref (q 8), .ref (q 9), .ref (q 10), .ref (q 11), .int 0, .int 0, .int 0, .long 0, .long 1])), ((q 11), .inl (k 1, 5, .inl (fun _ => 0)))]) (wr := [((q 200), .inr (12, [.ref (q 201), .ref (q 202), .int 0, .long 0, .long 1, .ref (q 203), .ref (q 204), .ref (q 205), .ref (q 206), .ref (q 207), .int 0, .int 0, .int 0, .int 0, .int 0, .int 0, .int (-1), .int (-1), .int 0, .int 0, .int 0, .ref (q 208), .int 0, .int 0, .ref (q 209), .ref (q 210), .ref (q 211), .ref (q 212), .ref (q 213), .int 0, .int 0, .ref (q 214), .ref (q 215), .ref (q 216), .int 0, .int 0])), ((q 201), .inl (k 1, 5340, .inl at0))]) hx hb hml hown hts hKK hP hD hS hA (p_lived l D k q (xs 1)) ci_X11_lived qm_L_307 ⟨Nat.le_of_ble_eq_true rfl, Nat.le_of_ble_eq_true rfl⟩ ⟨Nat.le_of_ble_eq_true rfl, Nat.le_of_ble_eq_true rfl⟩ [0, 65] [66, 67] rfl rfl rfl rfl rfl (by decide) 0 rfl rfl rfl hl.1 rfl (Nat.le_of_ble_eq_true rfl) dL_law_2773 (fun u_2 H locs hφ hP hD hS => ?_)
  have hP : va_P D vwCl [((q 200), .inr (12, [.ref (q 201), .ref (q 202), .int 0, .long 0, .long 1, .ref (q 203), .ref (q 204), .ref (q 205), .ref (q 206), .ref (q 207), .int 0, .int 0, .int 0, .int 0, .int 0, .int 0, .int (-1), .int (-1), .int 0, .int 0, .int 0, .ref (q 208), .int 0, .int 0, .ref (q 209), .ref (q 210), .ref (q 211), .ref (q 212), .ref (q 213), .int 0, .int 0, .ref (q 214), .ref (q 215), .ref (q 216), .int 0, .int 0])), ((q 201), .inl (k 1, 5340, .inl at0))] H := hP
  have hD : va_D A [((q 200), .inr (12, [.ref (q 201), .ref (q 202), .int 0, .long 0, .long 1, .ref (q 203), .ref (q 204), .ref (q 205), .ref (q 206), .ref (q 207), .int 0, .int 0, .int 0, .int 0, .int 0, .int 0, .int (-1), .int (-1), .int 0, .int 0, .int 0, .ref (q 208), .int 0, .int 0, .ref (q 209), .ref (q 210), .ref (q 211), .ref (q 212), .ref (q 213), .int 0, .int 0, .ref (q 214), .ref (q 215), .ref (q 216), .int 0, .int 0])), ((q 201), .inl (k 1, 5340, .inl at0))] := hD
  refine W.eq (g2 := F0 m 2776 ls [.int (-1)]) rfl ?_
  refine lv_aload_n hx hb dL_law_2776 rfl (lv_at hl 1 rfl) ?_
  refine lv_aload_n hx hb dL_law_2777 rfl (lv_at hl 3 rfl) ?_
  refine lv_iload_n hx hb dL_law_2778 rfl (lv_at hl 0 rfl) ?_
  refine lv_iconst (v := 1) hx hb dL_law_2779 (by decide) ?_
  refine lv_iadd hx hb dL_law_2780 ?_
  refine lv_topi (fun x_3 ex_3 => ?_)
  obtain rfl : x_3 = 1 := ex_3.trans (by decide +kernel)
  refine va_sld hx hb hX hbl hbA hS (xin 1 6 rfl (by decide) (by decide)) dL_law_2781 ?_
  refine W.eq (g2 := F0 m 2782 ls [.int (xs 1), .ref (q 200), .int (-1)]) rfl ?_
  refine CWV (As := [.int (xs 1)]) (rest := [.int (-1)]) (wc := [((q 200), .inr (12, [.ref (q 201), .ref (q 202), .int 0, .long 0, .long 1, .ref (q 203), .ref (q 204), .ref (q 205), .ref (q 206), .ref (q 207), .int 0, .int 0, .int 0, .int 0, .int 0, .int 0, .int (-1), .int (-1), .int 0, .int 0, .int 0, .ref (q 208), .int 0, .int 0, .ref (q 209), .ref (q 210), .ref (q 211), .ref (q 212), .ref (q 213), .int 0, .int 0, .ref (q 214), .ref (q 215), .ref (q 216), .int 0, .int 0])), ((q 201), .inl (k 1, 5340, .inl at0))]) (wr := []) hx hb hml hown hts hKK hP hD hS hA (r_lived l D k q (xs 1)) ci_X12_lived qm_L_310 ⟨Nat.le_of_ble_eq_true rfl, Nat.le_of_ble_eq_true rfl⟩ ⟨Nat.le_of_ble_eq_true rfl, Nat.le_of_ble_eq_true rfl⟩ [0, 1] [] rfl rfl rfl rfl rfl (by decide) 0 rfl rfl rfl hl.1 rfl (Nat.le_of_ble_eq_true rfl) dL_law_2782 (fun u_4 H locs hφ hP hD hS => ?_)
  have hP : va_P D vwCl [] H := hP
  have hD : va_D A [] := hD
  refine W.eq (g2 := F0 m 2785 ls [.int (-1), .int (-1)]) rfl ?_
  refine lv_icmp_eq (tgt := 2849) hx hb dL_law_2785 (by decide) (fun _ => ?_) (fun c => absurd (by decide) c)
  exact law_done hx hb hr hlocks hX hbl hbA hAf hS (by decide) (by decide) hl
set_option maxHeartbeats 4000000 in
set_option maxRecDepth 100000 in
theorem law_c71 {p : Program} {e : Env} {s : State} {m : MethodId} {below : List Frame} {meth : Method} {c : Code} (l : Launch) {b : Nat} {xs : Nat → Int32} {A : Nat → Prop} {D : va_G} {k : Nat → ClassId} {q : Nat → Nat} {H : Heap} {locs : List Loc} {ls : Array Slot} (C : LC p s m meth c b xs A D k q H locs ls) : W p l e room_1 s m #[Value.ref b] below meth c H locs 123 16705 (lw_Z below #[Value.ref b] s) (F0 m 2790 ls []) := by
  obtain ⟨hx, hb, hr, hml, hown, hts, hKK, hX, hbl, hbA, hA, hAf, hlocks, hP, hD, hS, hl⟩ := C
  refine lv_aload_n hx hb dL_law_2790 rfl (lv_at hl 2 rfl) ?_
  refine lv_aload_n hx hb dL_law_2791 rfl (lv_at hl 3 rfl) ?_
  refine lv_iload_n hx hb dL_law_2792 rfl (lv_at hl 0 rfl) ?_
  refine lv_iconst (v := 1) hx hb dL_law_2793 (by decide) ?_
  refine lv_iadd hx hb dL_law_2794 ?_
  refine lv_topi (fun x_1 ex_1 => ?_)
  obtain rfl : x_1 = 1 := ex_1.trans (by decide +kernel)
  refine va_sld hx hb hX hbl hbA hS (xin 1 6 rfl (by decide) (by decide)) dL_law_2795 ?_
  refine W.eq (g2 := F0 m 2796 ls [.int (xs 1), .ref (q 0)]) rfl ?_
  refine lv_aload_n hx hb dL_law_2796 rfl (lv_at hl 3 rfl) ?_
  refine lv_iload_n hx hb dL_law_2797 rfl (lv_at hl 0 rfl) ?_
  refine lv_iconst (v := 2) hx hb dL_law_2798 (by decide) ?_
  refine lv_iadd hx hb dL_law_2799 ?_
  refine lv_topi (fun x_2 ex_2 => ?_)
  obtain rfl : x_2 = 2 := ex_2.trans (by decide +kernel)
  refine va_sld hx hb hX hbl hbA hS (xin 2 6 rfl (by decide) (by decide)) dL_law_2800 ?_
  refine W.eq (g2 := F0 m 2801 ls [.int (xs 2), .int (xs 1), .ref (q 0)]) rfl ?_
  refine CWV (As := [.int (xs 1), .int (xs 2)]) (rest := []) (wc := [((q 0), .inr (11, [.ref (q 1), .ref (q 2), .ref (q 3), .ref (q 4), .ref (q 5), .ref (q 6), .ref (q 7), .ref (q 8), .ref (q 9), .ref (q 10), .ref (q 11), .int 0, .int 0, .int 0, .long 0, .long 1])), ((q 2), .inr (8, [.ref (q 20), .ref (q 21), .ref (q 22)])), ((q 20), .inr (5, [.ref (q 23), .ref (q 24), .ref (q 25), .int 0, .int 0, .int 0, .int 0])), ((q 21), .inr (0, [.ref (q 26), .ref (q 27), .ref (q 28), .ref (q 29), .int 0, .int 0])), ((q 22), .inr (9, [.ref (q 30), .ref (q 31), .ref (q 32), .ref (q 33), .ref (q 34), .int 0, .int 0, .int 0]))]) (wr := [((q 200), .inr (12, [.ref (q 201), .ref (q 202), .int 0, .long 0, .long 1, .ref (q 203), .ref (q 204), .ref (q 205), .ref (q 206), .ref (q 207), .int 0, .int 0, .int 0, .int 0, .int 0, .int 0, .int (-1), .int (-1), .int 0, .int 0, .int 0, .ref (q 208), .int 0, .int 0, .ref (q 209), .ref (q 210), .ref (q 211), .ref (q 212), .ref (q 213), .int 0, .int 0, .ref (q 214), .ref (q 215), .ref (q 216), .int 0, .int 0])), ((q 201), .inl (k 1, 5340, .inl at0))]) hx hb hml hown hts hKK hP hD hS hA (p_mean l D k q (xs 1) (xs 2)) ci_X11_mean qm_L_311 ⟨Nat.le_of_ble_eq_true rfl, Nat.le_of_ble_eq_true rfl⟩ ⟨Nat.le_of_ble_eq_true rfl, Nat.le_of_ble_eq_true rfl⟩ [0, 11, 12, 16, 21] [66, 67] rfl rfl rfl rfl rfl (by decide) 0 rfl rfl rfl hl.1 rfl (Nat.le_of_ble_eq_true rfl) dL_law_2801 (fun u_3 H locs hφ hP hD hS => ?_)
  have hP : va_P D vwCl [((q 200), .inr (12, [.ref (q 201), .ref (q 202), .int 0, .long 0, .long 1, .ref (q 203), .ref (q 204), .ref (q 205), .ref (q 206), .ref (q 207), .int 0, .int 0, .int 0, .int 0, .int 0, .int 0, .int (-1), .int (-1), .int 0, .int 0, .int 0, .ref (q 208), .int 0, .int 0, .ref (q 209), .ref (q 210), .ref (q 211), .ref (q 212), .ref (q 213), .int 0, .int 0, .ref (q 214), .ref (q 215), .ref (q 216), .int 0, .int 0])), ((q 201), .inl (k 1, 5340, .inl at0))] H := hP
  have hD : va_D A [((q 200), .inr (12, [.ref (q 201), .ref (q 202), .int 0, .long 0, .long 1, .ref (q 203), .ref (q 204), .ref (q 205), .ref (q 206), .ref (q 207), .int 0, .int 0, .int 0, .int 0, .int 0, .int 0, .int (-1), .int (-1), .int 0, .int 0, .int 0, .ref (q 208), .int 0, .int 0, .ref (q 209), .ref (q 210), .ref (q 211), .ref (q 212), .ref (q 213), .int 0, .int 0, .ref (q 214), .ref (q 215), .ref (q 216), .int 0, .int 0])), ((q 201), .inl (k 1, 5340, .inl at0))] := hD
  refine W.eq (g2 := F0 m 2804 ls [.int 0]) rfl ?_
  refine lv_aload_n hx hb dL_law_2804 rfl (lv_at hl 1 rfl) ?_
  refine lv_aload_n hx hb dL_law_2805 rfl (lv_at hl 3 rfl) ?_
  refine lv_iload_n hx hb dL_law_2806 rfl (lv_at hl 0 rfl) ?_
  refine lv_iconst (v := 1) hx hb dL_law_2807 (by decide) ?_
  refine lv_iadd hx hb dL_law_2808 ?_
  refine lv_topi (fun x_4 ex_4 => ?_)
  obtain rfl : x_4 = 1 := ex_4.trans (by decide +kernel)
  refine va_sld hx hb hX hbl hbA hS (xin 1 6 rfl (by decide) (by decide)) dL_law_2809 ?_
  refine W.eq (g2 := F0 m 2810 ls [.int (xs 1), .ref (q 200), .int 0]) rfl ?_
  refine lv_aload_n hx hb dL_law_2810 rfl (lv_at hl 3 rfl) ?_
  refine lv_iload_n hx hb dL_law_2811 rfl (lv_at hl 0 rfl) ?_
  refine lv_iconst (v := 2) hx hb dL_law_2812 (by decide) ?_
  refine lv_iadd hx hb dL_law_2813 ?_
  refine lv_topi (fun x_5 ex_5 => ?_)
  obtain rfl : x_5 = 2 := ex_5.trans (by decide +kernel)
  refine va_sld hx hb hX hbl hbA hS (xin 2 6 rfl (by decide) (by decide)) dL_law_2814 ?_
  refine W.eq (g2 := F0 m 2815 ls [.int (xs 2), .int (xs 1), .ref (q 200), .int 0]) rfl ?_
  refine CWV (As := [.int (xs 1), .int (xs 2)]) (rest := [.int 0]) (wc := [((q 200), .inr (12, [.ref (q 201), .ref (q 202), .int 0, .long 0, .long 1, .ref (q 203), .ref (q 204), .ref (q 205), .ref (q 206), .ref (q 207), .int 0, .int 0, .int 0, .int 0, .int 0, .int 0, .int (-1), .int (-1), .int 0, .int 0, .int 0, .ref (q 208), .int 0, .int 0, .ref (q 209), .ref (q 210), .ref (q 211), .ref (q 212), .ref (q 213), .int 0, .int 0, .ref (q 214), .ref (q 215), .ref (q 216), .int 0, .int 0])), ((q 201), .inl (k 1, 5340, .inl at0))]) (wr := []) hx hb hml hown hts hKK hP hD hS hA (r_mean l D k q (xs 1) (xs 2)) ci_X12_mean qm_L_314 ⟨Nat.le_of_ble_eq_true rfl, Nat.le_of_ble_eq_true rfl⟩ ⟨Nat.le_of_ble_eq_true rfl, Nat.le_of_ble_eq_true rfl⟩ [0, 1] [] rfl rfl rfl rfl rfl (by decide) 0 rfl rfl rfl hl.1 rfl (Nat.le_of_ble_eq_true rfl) dL_law_2815 (fun u_6 H locs hφ hP hD hS => ?_)
  have hP : va_P D vwCl [] H := hP
  have hD : va_D A [] := hD
  refine W.eq (g2 := F0 m 2818 ls [.int 0, .int 0]) rfl ?_
  refine lv_icmp_eq (tgt := 2849) hx hb dL_law_2818 (by decide) (fun _ => ?_) (fun c => absurd (by decide) c)
  exact law_done hx hb hr hlocks hX hbl hbA hAf hS (by decide) (by decide) hl
set_option maxHeartbeats 4000000 in
set_option maxRecDepth 100000 in
theorem law_c72 {p : Program} {e : Env} {s : State} {m : MethodId} {below : List Frame} {meth : Method} {c : Code} (l : Launch) {b : Nat} {xs : Nat → Int32} {A : Nat → Prop} {D : va_G} {k : Nat → ClassId} {q : Nat → Nat} {H : Heap} {locs : List Loc} {ls : Array Slot} (C : LC p s m meth c b xs A D k q H locs ls) : W p l e room_1 s m #[Value.ref b] below meth c H locs 123 16705 (lw_Z below #[Value.ref b] s) (F0 m 2823 ls []) := by
  obtain ⟨hx, hb, hr, hml, hown, hts, hKK, hX, hbl, hbA, hA, hAf, hlocks, hP, hD, hS, hl⟩ := C
  refine lv_aload_n hx hb dL_law_2823 rfl (lv_at hl 2 rfl) ?_
  refine CWV (As := []) (rest := []) (wc := [((q 0), .inr (11, [.ref (q 1), .ref (q 2), .ref (q 3), .ref (q 4), .ref (q 5), .ref (q 6), .ref (q 7), .ref (q 8), .ref (q 9), .ref (q 10), .ref (q 11), .int 0, .int 0, .int 0, .long 0, .long 1])), ((q 4), .inl (k 4, 3, .inr (.inr (.inr (.inr (fun i => some (q (12 + i)))))))), ((q 12), .inr (8, [.ref (q 60), .ref (q 61), .ref (q 62)])), ((q 2), .inr (8, [.ref (q 20), .ref (q 21), .ref (q 22)])), ((q 60), .inr (5, [.ref (q 63), .ref (q 64), .ref (q 65), .int 0, .int 0, .int 0, .int 0])), ((q 20), .inr (5, [.ref (q 23), .ref (q 24), .ref (q 25), .int 0, .int 0, .int 0, .int 0])), ((q 63), .inl (k 2, 6, .inr (.inl (fun _ => 0)))), ((q 64), .inl (k 1, 36, .inl (fun _ => 0))), ((q 65), .inl (k 1, 32, .inl (fun _ => 0))), ((q 23), .inl (k 2, 6, .inr (.inl (fun _ => 0)))), ((q 24), .inl (k 1, 36, .inl (fun _ => 0))), ((q 25), .inl (k 1, 32, .inl (fun _ => 0))), ((q 61), .inr (0, [.ref (q 66), .ref (q 67), .ref (q 68), .ref (q 69), .int 0, .int 0])), ((q 21), .inr (0, [.ref (q 26), .ref (q 27), .ref (q 28), .ref (q 29), .int 0, .int 0])), ((q 66), .inl (k 1, 401, .inl (fun _ => 0))), ((q 67), .inl (k 1, 20, .inl (fun _ => 0))), ((q 68), .inl (k 1, 20, .inl (fun _ => 0))), ((q 69), .inl (k 1, 120, .inl (fun _ => 0))), ((q 26), .inl (k 1, 401, .inl (fun _ => 0))), ((q 27), .inl (k 1, 20, .inl (fun _ => 0))), ((q 28), .inl (k 1, 20, .inl (fun _ => 0))), ((q 29), .inl (k 1, 120, .inl (fun _ => 0))), ((q 62), .inr (9, [.ref (q 70), .ref (q 71), .ref (q 72), .ref (q 73), .ref (q 74), .int 0, .int 0, .int 0])), ((q 22), .inr (9, [.ref (q 30), .ref (q 31), .ref (q 32), .ref (q 33), .ref (q 34), .int 0, .int 0, .int 0])), ((q 70), .inl (k 1, 60, .inl (fun _ => 0))), ((q 71), .inl (k 1, 60, .inl (fun _ => 0))), ((q 72), .inl (k 1, 60, .inl (fun _ => 0))), ((q 73), .inl (k 1, 60, .inl (fun _ => 0))), ((q 74), .inl (k 1, 60, .inl (fun _ => 0))), ((q 30), .inl (k 1, 60, .inl (fun _ => 0))), ((q 31), .inl (k 1, 60, .inl (fun _ => 0))), ((q 32), .inl (k 1, 60, .inl (fun _ => 0))), ((q 33), .inl (k 1, 60, .inl (fun _ => 0))), ((q 34), .inl (k 1, 60, .inl (fun _ => 0)))]) (wr := [((q 200), .inr (12, [.ref (q 201), .ref (q 202), .int 0, .long 0, .long 1, .ref (q 203), .ref (q 204), .ref (q 205), .ref (q 206), .ref (q 207), .int 0, .int 0, .int 0, .int 0, .int 0, .int 0, .int (-1), .int (-1), .int 0, .int 0, .int 0, .ref (q 208), .int 0, .int 0, .ref (q 209), .ref (q 210), .ref (q 211), .ref (q 212), .ref (q 213), .int 0, .int 0, .ref (q 214), .ref (q 215), .ref (q 216), .int 0, .int 0])), ((q 201), .inl (k 1, 5340, .inl at0)), ((q 202), .inl (k 2, 36, .inr (.inl (fun _ => 0))))]) hx hb hml hown hts hKK hP hD hS hA (p_mark l D k q) ci_X11_mark qm_L_315 ⟨Nat.le_of_ble_eq_true rfl, Nat.le_of_ble_eq_true rfl⟩ ⟨Nat.le_of_ble_eq_true rfl, Nat.le_of_ble_eq_true rfl⟩ [0, 10, 43, 11, 44, 12, 45, 46, 47, 13, 14, 15, 48, 16, 49, 50, 51, 52, 17, 18, 19, 20, 53, 21, 54, 55, 56, 57, 58, 22, 23, 24, 25, 26] [66, 67, 68] rfl rfl rfl rfl rfl (by decide) 0 rfl rfl rfl hl.1 rfl (Nat.le_of_ble_eq_true rfl) dL_law_2824 (fun u_1 H locs hφ hP hD hS => ?_)
  have hP : va_P D vwCl [((q 200), .inr (12, [.ref (q 201), .ref (q 202), .int 0, .long 0, .long 1, .ref (q 203), .ref (q 204), .ref (q 205), .ref (q 206), .ref (q 207), .int 0, .int 0, .int 0, .int 0, .int 0, .int 0, .int (-1), .int (-1), .int 0, .int 0, .int 0, .ref (q 208), .int 0, .int 0, .ref (q 209), .ref (q 210), .ref (q 211), .ref (q 212), .ref (q 213), .int 0, .int 0, .ref (q 214), .ref (q 215), .ref (q 216), .int 0, .int 0])), ((q 201), .inl (k 1, 5340, .inl at0)), ((q 202), .inl (k 2, 36, .inr (.inl (fun _ => 0))))] H := hP
  have hD : va_D A [((q 200), .inr (12, [.ref (q 201), .ref (q 202), .int 0, .long 0, .long 1, .ref (q 203), .ref (q 204), .ref (q 205), .ref (q 206), .ref (q 207), .int 0, .int 0, .int 0, .int 0, .int 0, .int 0, .int (-1), .int (-1), .int 0, .int 0, .int 0, .ref (q 208), .int 0, .int 0, .ref (q 209), .ref (q 210), .ref (q 211), .ref (q 212), .ref (q 213), .int 0, .int 0, .ref (q 214), .ref (q 215), .ref (q 216), .int 0, .int 0])), ((q 201), .inl (k 1, 5340, .inl at0)), ((q 202), .inl (k 2, 36, .inr (.inl (fun _ => 0))))] := hD
  refine W.eq (g2 := F0 m 2827 ls [.int 1]) rfl ?_
  refine lv_aload_n hx hb dL_law_2827 rfl (lv_at hl 1 rfl) ?_
  refine CWV (As := []) (rest := [.int 1]) (wc := [((q 200), .inr (12, [.ref (q 201), .ref (q 202), .int 0, .long 0, .long 1, .ref (q 203), .ref (q 204), .ref (q 205), .ref (q 206), .ref (q 207), .int 0, .int 0, .int 0, .int 0, .int 0, .int 0, .int (-1), .int (-1), .int 0, .int 0, .int 0, .ref (q 208), .int 0, .int 0, .ref (q 209), .ref (q 210), .ref (q 211), .ref (q 212), .ref (q 213), .int 0, .int 0, .ref (q 214), .ref (q 215), .ref (q 216), .int 0, .int 0])), ((q 201), .inl (k 1, 5340, .inl at0)), ((q 202), .inl (k 2, 36, .inr (.inl (fun _ => 0))))]) (wr := []) hx hb hml hown hts hKK hP hD hS hA (r_mark l D k q) ci_X12_mark qm_L_318 ⟨Nat.le_of_ble_eq_true rfl, Nat.le_of_ble_eq_true rfl⟩ ⟨Nat.le_of_ble_eq_true rfl, Nat.le_of_ble_eq_true rfl⟩ [0, 1, 2] [] rfl rfl rfl rfl rfl (by decide) 0 rfl rfl rfl hl.1 rfl (Nat.le_of_ble_eq_true rfl) dL_law_2828 (fun u_2 H locs hφ hP hD hS => ?_)
  have hP : va_P D vwCl [] H := hP
  have hD : va_D A [] := hD
  refine W.eq (g2 := F0 m 2831 ls [.int 1, .int 1]) rfl ?_
  refine lv_icmp_eq (tgt := 2849) hx hb dL_law_2831 (by decide) (fun _ => ?_) (fun c => absurd (by decide) c)
  exact law_done hx hb hr hlocks hX hbl hbA hAf hS (by decide) (by decide) hl
set_option maxHeartbeats 4000000 in
set_option maxRecDepth 100000 in
theorem law_c73 {p : Program} {e : Env} {s : State} {m : MethodId} {below : List Frame} {meth : Method} {c : Code} (l : Launch) {b : Nat} {xs : Nat → Int32} {A : Nat → Prop} {D : va_G} {k : Nat → ClassId} {q : Nat → Nat} {H : Heap} {locs : List Loc} {ls : Array Slot} (C : LC p s m meth c b xs A D k q H locs ls) : W p l e room_1 s m #[Value.ref b] below meth c H locs 123 16705 (lw_Z below #[Value.ref b] s) (F0 m 2836 ls []) := by
  obtain ⟨hx, hb, hr, hml, hown, hts, hKK, hX, hbl, hbA, hA, hAf, hlocks, hP, hD, hS, hl⟩ := C
  refine lv_aload_n hx hb dL_law_2836 rfl (lv_at hl 2 rfl) ?_
  refine CWV (As := []) (rest := []) (wc := [((q 0), .inr (11, [.ref (q 1), .ref (q 2), .ref (q 3), .ref (q 4), .ref (q 5), .ref (q 6), .ref (q 7), .ref (q 8), .ref (q 9), .ref (q 10), .ref (q 11), .int 0, .int 0, .int 0, .long 0, .long 1])), ((q 2), .inr (8, [.ref (q 20), .ref (q 21), .ref (q 22)])), ((q 20), .inr (5, [.ref (q 23), .ref (q 24), .ref (q 25), .int 0, .int 0, .int 0, .int 0])), ((q 21), .inr (0, [.ref (q 26), .ref (q 27), .ref (q 28), .ref (q 29), .int 0, .int 0]))]) (wr := [((q 200), .inr (12, [.ref (q 201), .ref (q 202), .int 0, .long 0, .long 1, .ref (q 203), .ref (q 204), .ref (q 205), .ref (q 206), .ref (q 207), .int 0, .int 0, .int 0, .int 0, .int 0, .int 0, .int (-1), .int (-1), .int 0, .int 0, .int 0, .ref (q 208), .int 0, .int 0, .ref (q 209), .ref (q 210), .ref (q 211), .ref (q 212), .ref (q 213), .int 0, .int 0, .ref (q 214), .ref (q 215), .ref (q 216), .int 0, .int 0])), ((q 201), .inl (k 1, 5340, .inl at0))]) hx hb hml hown hts hKK hP hD hS hA (p_back l D k q) ci_X11_back qm_L_319 ⟨Nat.le_of_ble_eq_true rfl, Nat.le_of_ble_eq_true rfl⟩ ⟨Nat.le_of_ble_eq_true rfl, Nat.le_of_ble_eq_true rfl⟩ [0, 11, 12, 16] [66, 67] rfl rfl rfl rfl rfl (by decide) 0 rfl rfl rfl hl.1 rfl (Nat.le_of_ble_eq_true rfl) dL_law_2837 (fun u_1 H locs hφ hP hD hS => ?_)
  have hP : va_P D vwCl [((q 200), .inr (12, [.ref (q 201), .ref (q 202), .int 0, .long 0, .long 1, .ref (q 203), .ref (q 204), .ref (q 205), .ref (q 206), .ref (q 207), .int 0, .int 0, .int 0, .int 0, .int 0, .int 0, .int (-1), .int (-1), .int 0, .int 0, .int 0, .ref (q 208), .int 0, .int 0, .ref (q 209), .ref (q 210), .ref (q 211), .ref (q 212), .ref (q 213), .int 0, .int 0, .ref (q 214), .ref (q 215), .ref (q 216), .int 0, .int 0])), ((q 201), .inl (k 1, 5340, .inl at0))] H := hP
  have hD : va_D A [((q 200), .inr (12, [.ref (q 201), .ref (q 202), .int 0, .long 0, .long 1, .ref (q 203), .ref (q 204), .ref (q 205), .ref (q 206), .ref (q 207), .int 0, .int 0, .int 0, .int 0, .int 0, .int 0, .int (-1), .int (-1), .int 0, .int 0, .int 0, .ref (q 208), .int 0, .int 0, .ref (q 209), .ref (q 210), .ref (q 211), .ref (q 212), .ref (q 213), .int 0, .int 0, .ref (q 214), .ref (q 215), .ref (q 216), .int 0, .int 0])), ((q 201), .inl (k 1, 5340, .inl at0))] := hD
  refine W.eq (g2 := F0 m 2840 ls [.int (-1)]) rfl ?_
  refine lv_aload_n hx hb dL_law_2840 rfl (lv_at hl 1 rfl) ?_
  refine CWV (As := []) (rest := [.int (-1)]) (wc := [((q 200), .inr (12, [.ref (q 201), .ref (q 202), .int 0, .long 0, .long 1, .ref (q 203), .ref (q 204), .ref (q 205), .ref (q 206), .ref (q 207), .int 0, .int 0, .int 0, .int 0, .int 0, .int 0, .int (-1), .int (-1), .int 0, .int 0, .int 0, .ref (q 208), .int 0, .int 0, .ref (q 209), .ref (q 210), .ref (q 211), .ref (q 212), .ref (q 213), .int 0, .int 0, .ref (q 214), .ref (q 215), .ref (q 216), .int 0, .int 0])), ((q 201), .inl (k 1, 5340, .inl at0))]) (wr := []) hx hb hml hown hts hKK hP hD hS hA (r_back l D k q) ci_X12_back qm_L_322 ⟨Nat.le_of_ble_eq_true rfl, Nat.le_of_ble_eq_true rfl⟩ ⟨Nat.le_of_ble_eq_true rfl, Nat.le_of_ble_eq_true rfl⟩ [0, 1] [] rfl rfl rfl rfl rfl (by decide) 0 rfl rfl rfl hl.1 rfl (Nat.le_of_ble_eq_true rfl) dL_law_2841 (fun u_2 H locs hφ hP hD hS => ?_)
  have hP : va_P D vwCl [] H := hP
  have hD : va_D A [] := hD
  refine W.eq (g2 := F0 m 2844 ls [.int (-1), .int (-1)]) rfl ?_
  refine lv_icmp_eq (tgt := 2849) hx hb dL_law_2844 (by decide) (fun _ => ?_) (fun c => absurd (by decide) c)
  exact law_done hx hb hr hlocks hX hbl hbA hAf hS (by decide) (by decide) hl
