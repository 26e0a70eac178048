set_option maxHeartbeats 4000000 in
set_option maxRecDepth 100000 in
theorem law_c25 {p : Program} {e : Env} {s : State} {m : MethodId} {below : List Frame} {meth : Method} {c : Code} (l : Launch) {b : Nat} {xs : Nat → Int32} {A : Nat → Prop} {D : va_G} {k : Nat → ClassId} {q : Nat → Nat} {H : Heap} {locs : List Loc} {ls : Array Slot} (C : LC p s m meth c b xs A D k q H locs ls) : W p l e room_1 s m #[Value.ref b] below meth c H locs 123 16705 (lw_Z below #[Value.ref b] s) (F0 m 1252 ls []) := by
  obtain ⟨hx, hb, hr, hml, hown, hts, hKK, hX, hbl, hbA, hA, hAf, hlocks, hP, hD, hS, hl⟩ := C
  refine lv_aload_n hx hb dL_law_1252 rfl (lv_at hl 2 rfl) ?_
  refine lv_aload_n hx hb dL_law_1253 rfl (lv_at hl 3 rfl) ?_
  refine lv_iload_n hx hb dL_law_1254 rfl (lv_at hl 0 rfl) ?_
  refine lv_iconst (v := 1) hx hb dL_law_1255 (by decide) ?_
  refine lv_iadd hx hb dL_law_1256 ?_
  refine lv_topi (fun x_1 ex_1 => ?_)
  obtain rfl : x_1 = 1 := ex_1.trans (by decide +kernel)
  refine va_sld hx hb hX hbl hbA hS (xin 1 6 rfl (by decide) (by decide)) dL_law_1257 ?_
  refine W.eq (g2 := F0 m 1258 ls [.int (xs 1), .ref (q 0)]) rfl ?_
  refine lv_aload_n hx hb dL_law_1258 rfl (lv_at hl 3 rfl) ?_
  refine lv_iload_n hx hb dL_law_1259 rfl (lv_at hl 0 rfl) ?_
  refine lv_iconst (v := 2) hx hb dL_law_1260 (by decide) ?_
  refine lv_iadd hx hb dL_law_1261 ?_
  refine lv_topi (fun x_2 ex_2 => ?_)
  obtain rfl : x_2 = 2 := ex_2.trans (by decide +kernel)
  refine va_sld hx hb hX hbl hbA hS (xin 2 6 rfl (by decide) (by decide)) dL_law_1262 ?_
  refine W.eq (g2 := F0 m 1263 ls [.int (xs 2), .int (xs 1), .ref (q 0)]) rfl ?_
  refine lv_aload_n hx hb dL_law_1263 rfl (lv_at hl 3 rfl) ?_
  refine lv_iload_n hx hb dL_law_1264 rfl (lv_at hl 0 rfl) ?_
  refine lv_iconst (v := 3) hx hb dL_law_1265 (by decide) ?_
  refine lv_iadd hx hb dL_law_1266 ?_
  refine lv_topi (fun x_3 ex_3 => ?_)
  obtain rfl : x_3 = 3 := ex_3.trans (by decide +kernel)
  refine va_sld hx hb hX hbl hbA hS (xin 3 6 rfl (by decide) (by decide)) dL_law_1267 ?_
  refine W.eq (g2 := F0 m 1268 ls [.int (xs 3), .int (xs 2), .int (xs 1), .ref (q 0)]) rfl ?_
  refine lv_aload_n hx hb dL_law_1268 rfl (lv_at hl 3 rfl) ?_
  refine lv_iload_n hx hb dL_law_1269 rfl (lv_at hl 0 rfl) ?_
  refine lv_iconst (v := 4) hx hb dL_law_1270 (by decide) ?_
  refine lv_iadd hx hb dL_law_1271 ?_
  refine lv_topi (fun x_4 ex_4 => ?_)
  obtain rfl : x_4 = 4 := ex_4.trans (by decide +kernel)
  refine va_sld hx hb hX hbl hbA hS (xin 4 6 rfl (by decide) (by decide)) dL_law_1272 ?_
  refine W.eq (g2 := F0 m 1273 ls [.int (xs 4), .int (xs 3), .int (xs 2), .int (xs 1), .ref (q 0)]) rfl ?_
  refine CWV (As := [.int (xs 1), .int (xs 2), .int (xs 3), .int (xs 4)]) (rest := []) (wc := [((q 0), .inr (11, [.ref (q 1), .ref (q 2), .ref (q 3), .ref (q 4), .ref (q 5), .ref (q 6), .ref (q 7), .ref (q 8), .ref (q 9), .ref (q 10), .ref (q 11), .int 0, .int 0, .int 0, .long 0, .long 1])), ((q 2), .inr (8, [.ref (q 20), .ref (q 21), .ref (q 22)])), ((q 20), .inr (5, [.ref (q 23), .ref (q 24), .ref (q 25), .int 0, .int 0, .int 0, .int 0])), ((q 21), .inr (0, [.ref (q 26), .ref (q 27), .ref (q 28), .ref (q 29), .int 0, .int 0]))]) (wr := [((q 200), .inr (12, [.ref (q 201), .ref (q 202), .int 0, .long 0, .long 1, .ref (q 203), .ref (q 204), .ref (q 205), .ref (q 206), .ref (q 207), .int 0, .int 0, .int 0, .int 0, .int 0, .int 0, .int (-1), .int (-1), .int 0, .int 0, .int 0, .ref (q 208), .int 0, .int 0, .ref (q 209), .ref (q 210), .ref (q 211), .ref (q 212), .ref (q 213), .int 0, .int 0, .ref (q 214), .ref (q 215), .ref (q 216), .int 0, .int 0])), ((q 201), .inl (k 1, 5340, .inl at0))]) hx hb hml hown hts hKK hP hD hS hA (p_closest l D k q (xs 1) (xs 2) (xs 3) (xs 4)) ci_X11_closest qm_L_126 ⟨Nat.le_of_ble_eq_true rfl, Nat.le_of_ble_eq_true rfl⟩ ⟨Nat.le_of_ble_eq_true rfl, Nat.le_of_ble_eq_true rfl⟩ [0, 11, 12, 16] [66, 67] rfl rfl rfl rfl rfl (by decide) 0 rfl rfl rfl hl.1 rfl (Nat.le_of_ble_eq_true rfl) dL_law_1273 (fun u_5 H locs hφ hP hD hS => ?_)
  have hP : va_P D vwCl [((q 200), .inr (12, [.ref (q 201), .ref (q 202), .int 0, .long 0, .long 1, .ref (q 203), .ref (q 204), .ref (q 205), .ref (q 206), .ref (q 207), .int 0, .int 0, .int 0, .int 0, .int 0, .int 0, .int (-1), .int (-1), .int 0, .int 0, .int 0, .ref (q 208), .int 0, .int 0, .ref (q 209), .ref (q 210), .ref (q 211), .ref (q 212), .ref (q 213), .int 0, .int 0, .ref (q 214), .ref (q 215), .ref (q 216), .int 0, .int 0])), ((q 201), .inl (k 1, 5340, .inl at0))] H := hP
  have hD : va_D A [((q 200), .inr (12, [.ref (q 201), .ref (q 202), .int 0, .long 0, .long 1, .ref (q 203), .ref (q 204), .ref (q 205), .ref (q 206), .ref (q 207), .int 0, .int 0, .int 0, .int 0, .int 0, .int 0, .int (-1), .int (-1), .int 0, .int 0, .int 0, .ref (q 208), .int 0, .int 0, .ref (q 209), .ref (q 210), .ref (q 211), .ref (q 212), .ref (q 213), .int 0, .int 0, .ref (q 214), .ref (q 215), .ref (q 216), .int 0, .int 0])), ((q 201), .inl (k 1, 5340, .inl at0))] := hD
  refine W.eq (g2 := F0 m 1276 ls [.int (-1)]) rfl ?_
  refine lv_aload_n hx hb dL_law_1276 rfl (lv_at hl 1 rfl) ?_
  refine lv_aload_n hx hb dL_law_1277 rfl (lv_at hl 3 rfl) ?_
  refine lv_iload_n hx hb dL_law_1278 rfl (lv_at hl 0 rfl) ?_
  refine lv_iconst (v := 1) hx hb dL_law_1279 (by decide) ?_
  refine lv_iadd hx hb dL_law_1280 ?_
  refine lv_topi (fun x_6 ex_6 => ?_)
  obtain rfl : x_6 = 1 := ex_6.trans (by decide +kernel)
  refine va_sld hx hb hX hbl hbA hS (xin 1 6 rfl (by decide) (by decide)) dL_law_1281 ?_
  refine W.eq (g2 := F0 m 1282 ls [.int (xs 1), .ref (q 200), .int (-1)]) rfl ?_
  refine lv_aload_n hx hb dL_law_1282 rfl (lv_at hl 3 rfl) ?_
  refine lv_iload_n hx hb dL_law_1283 rfl (lv_at hl 0 rfl) ?_
  refine lv_iconst (v := 2) hx hb dL_law_1284 (by decide) ?_
  refine lv_iadd hx hb dL_law_1285 ?_
  refine lv_topi (fun x_7 ex_7 => ?_)
  obtain rfl : x_7 = 2 := ex_7.trans (by decide +kernel)
  refine va_sld hx hb hX hbl hbA hS (xin 2 6 rfl (by decide) (by decide)) dL_law_1286 ?_
  refine W.eq (g2 := F0 m 1287 ls [.int (xs 2), .int (xs 1), .ref (q 200), .int (-1)]) rfl ?_
  refine lv_aload_n hx hb dL_law_1287 rfl (lv_at hl 3 rfl) ?_
  refine lv_iload_n hx hb dL_law_1288 rfl (lv_at hl 0 rfl) ?_
  refine lv_iconst (v := 3) hx hb dL_law_1289 (by decide) ?_
  refine lv_iadd hx hb dL_law_1290 ?_
  refine lv_topi (fun x_8 ex_8 => ?_)
  obtain rfl : x_8 = 3 := ex_8.trans (by decide +kernel)
  refine va_sld hx hb hX hbl hbA hS (xin 3 6 rfl (by decide) (by decide)) dL_law_1291 ?_
  refine W.eq (g2 := F0 m 1292 ls [.int (xs 3), .int (xs 2), .int (xs 1), .ref (q 200), .int (-1)]) rfl ?_
  refine lv_aload_n hx hb dL_law_1292 rfl (lv_at hl 3 rfl) ?_
  refine lv_iload_n hx hb dL_law_1293 rfl (lv_at hl 0 rfl) ?_
  refine lv_iconst (v := 4) hx hb dL_law_1294 (by decide) ?_
  refine lv_iadd hx hb dL_law_1295 ?_
  refine lv_topi (fun x_9 ex_9 => ?_)
  obtain rfl : x_9 = 4 := ex_9.trans (by decide +kernel)
  refine va_sld hx hb hX hbl hbA hS (xin 4 6 rfl (by decide) (by decide)) dL_law_1296 ?_
  refine W.eq (g2 := F0 m 1297 ls [.int (xs 4), .int (xs 3), .int (xs 2), .int (xs 1), .ref (q 200), .int (-1)]) rfl ?_
  refine CWV (As := [.int (xs 1), .int (xs 2), .int (xs 3), .int (xs 4)]) (rest := [.int (-1)]) (wc := [((q 200), .inr (12, [.ref (q 201), .ref (q 202), .int 0, .long 0, .long 1, .ref (q 203), .ref (q 204), .ref (q 205), .ref (q 206), .ref (q 207), .int 0, .int 0, .int 0, .int 0, .int 0, .int 0, .int (-1), .int (-1), .int 0, .int 0, .int 0, .ref (q 208), .int 0, .int 0, .ref (q 209), .ref (q 210), .ref (q 211), .ref (q 212), .ref (q 213), .int 0, .int 0, .ref (q 214), .ref (q 215), .ref (q 216), .int 0, .int 0])), ((q 201), .inl (k 1, 5340, .inl at0))]) (wr := []) hx hb hml hown hts hKK hP hD hS hA (r_closest l D k q (xs 1) (xs 2) (xs 3) (xs 4)) ci_X12_closest qm_L_129 ⟨Nat.le_of_ble_eq_true rfl, Nat.le_of_ble_eq_true rfl⟩ ⟨Nat.le_of_ble_eq_true rfl, Nat.le_of_ble_eq_true rfl⟩ [0, 1] [] rfl rfl rfl rfl rfl (by decide) 0 rfl rfl rfl hl.1 rfl (Nat.le_of_ble_eq_true rfl) dL_law_1297 (fun u_10 H locs hφ hP hD hS => ?_)
  have hP : va_P D vwCl [] H := hP
  have hD : va_D A [] := hD
  refine W.eq (g2 := F0 m 1300 ls [.int (-1), .int (-1)]) rfl ?_
  refine lv_icmp_eq (tgt := 2849) hx hb dL_law_1300 (by decide) (fun _ => ?_) (fun c => absurd (by decide) c)
  exact law_done hx hb hr hlocks hX hbl hbA hAf hS (by decide) (by decide) hl
set_option maxHeartbeats 4000000 in
set_option maxRecDepth 100000 in
theorem law_c26 {p : Program} {e : Env} {s : State} {m : MethodId} {below : List Frame} {meth : Method} {c : Code} (l : Launch) {b : Nat} {xs : Nat → Int32} {A : Nat → Prop} {D : va_G} {k : Nat → ClassId} {q : Nat → Nat} {H : Heap} {locs : List Loc} {ls : Array Slot} (C : LC p s m meth c b xs A D k q H locs ls) : W p l e room_1 s m #[Value.ref b] below meth c H locs 123 16705 (lw_Z below #[Value.ref b] s) (F0 m 1305 ls []) := by
  obtain ⟨hx, hb, hr, hml, hown, hts, hKK, hX, hbl, hbA, hA, hAf, hlocks, hP, hD, hS, hl⟩ := C
  refine lv_aload_n hx hb dL_law_1305 rfl (lv_at hl 2 rfl) ?_
  refine lv_aload_n hx hb dL_law_1306 rfl (lv_at hl 3 rfl) ?_
  refine lv_iload_n hx hb dL_law_1307 rfl (lv_at hl 0 rfl) ?_
  refine lv_iconst (v := 1) hx hb dL_law_1308 (by decide) ?_
  refine lv_iadd hx hb dL_law_1309 ?_
  refine lv_topi (fun x_1 ex_1 => ?_)
  obtain rfl : x_1 = 1 := ex_1.trans (by decide +kernel)
  refine va_sld hx hb hX hbl hbA hS (xin 1 6 rfl (by decide) (by decide)) dL_law_1310 ?_
  refine W.eq (g2 := F0 m 1311 ls [.int (xs 1), .ref (q 0)]) rfl ?_
  refine lv_aload_n hx hb dL_law_1311 rfl (lv_at hl 3 rfl) ?_
  refine lv_iload_n hx hb dL_law_1312 rfl (lv_at hl 0 rfl) ?_
  refine lv_iconst (v := 2) hx hb dL_law_1313 (by decide) ?_
  refine lv_iadd hx hb dL_law_1314 ?_
  refine lv_topi (fun x_2 ex_2 => ?_)
  obtain rfl : x_2 = 2 := ex_2.trans (by decide +kernel)
  refine va_sld hx hb hX hbl hbA hS (xin 2 6 rfl (by decide) (by decide)) dL_law_1315 ?_
  refine W.eq (g2 := F0 m 1316 ls [.int (xs 2), .int (xs 1), .ref (q 0)]) rfl ?_
  refine lv_aload_n hx hb dL_law_1316 rfl (lv_at hl 3 rfl) ?_
  refine lv_iload_n hx hb dL_law_1317 rfl (lv_at hl 0 rfl) ?_
  refine lv_iconst (v := 3) hx hb dL_law_1318 (by decide) ?_
  refine lv_iadd hx hb dL_law_1319 ?_
  refine lv_topi (fun x_3 ex_3 => ?_)
  obtain rfl : x_3 = 3 := ex_3.trans (by decide +kernel)
  refine va_sld hx hb hX hbl hbA hS (xin 3 6 rfl (by decide) (by decide)) dL_law_1320 ?_
  refine W.eq (g2 := F0 m 1321 ls [.int (xs 3), .int (xs 2), .int (xs 1), .ref (q 0)]) rfl ?_
  refine CWV (As := [.int (xs 1), .int (xs 2), .int (xs 3)]) (rest := []) (wc := [((q 0), .inr (11, [.ref (q 1), .ref (q 2), .ref (q 3), .ref (q 4), .ref (q 5), .ref (q 6), .ref (q 7), .ref (q 8), .ref (q 9), .ref (q 10), .ref (q 11), .int 0, .int 0, .int 0, .long 0, .long 1])), ((q 2), .inr (8, [.ref (q 20), .ref (q 21), .ref (q 22)])), ((q 20), .inr (5, [.ref (q 23), .ref (q 24), .ref (q 25), .int 0, .int 0, .int 0, .int 0])), ((q 21), .inr (0, [.ref (q 26), .ref (q 27), .ref (q 28), .ref (q 29), .int 0, .int 0]))]) (wr := [((q 200), .inr (12, [.ref (q 201), .ref (q 202), .int 0, .long 0, .long 1, .ref (q 203), .ref (q 204), .ref (q 205), .ref (q 206), .ref (q 207), .int 0, .int 0, .int 0, .int 0, .int 0, .int 0, .int (-1), .int (-1), .int 0, .int 0, .int 0, .ref (q 208), .int 0, .int 0, .ref (q 209), .ref (q 210), .ref (q 211), .ref (q 212), .ref (q 213), .int 0, .int 0, .ref (q 214), .ref (q 215), .ref (q 216), .int 0, .int 0])), ((q 201), .inl (k 1, 5340, .inl at0))]) hx hb hml hown hts hKK hP hD hS hA (p_knows l D k q (xs 1) (xs 2) (xs 3)) ci_X11_knows qm_L_130 ⟨Nat.le_of_ble_eq_true rfl, Nat.le_of_ble_eq_true rfl⟩ ⟨Nat.le_of_ble_eq_true rfl, Nat.le_of_ble_eq_true rfl⟩ [0, 11, 12, 16] [66, 67] rfl rfl rfl rfl rfl (by decide) 0 rfl rfl rfl hl.1 rfl (Nat.le_of_ble_eq_true rfl) dL_law_1321 (fun u_4 H locs hφ hP hD hS => ?_)
  have hP : va_P D vwCl [((q 200), .inr (12, [.ref (q 201), .ref (q 202), .int 0, .long 0, .long 1, .ref (q 203), .ref (q 204), .ref (q 205), .ref (q 206), .ref (q 207), .int 0, .int 0, .int 0, .int 0, .int 0, .int 0, .int (-1), .int (-1), .int 0, .int 0, .int 0, .ref (q 208), .int 0, .int 0, .ref (q 209), .ref (q 210), .ref (q 211), .ref (q 212), .ref (q 213), .int 0, .int 0, .ref (q 214), .ref (q 215), .ref (q 216), .int 0, .int 0])), ((q 201), .inl (k 1, 5340, .inl at0))] H := hP
  have hD : va_D A [((q 200), .inr (12, [.ref (q 201), .ref (q 202), .int 0, .long 0, .long 1, .ref (q 203), .ref (q 204), .ref (q 205), .ref (q 206), .ref (q 207), .int 0, .int 0, .int 0, .int 0, .int 0, .int 0, .int (-1), .int (-1), .int 0, .int 0, .int 0, .ref (q 208), .int 0, .int 0, .ref (q 209), .ref (q 210), .ref (q 211), .ref (q 212), .ref (q 213), .int 0, .int 0, .ref (q 214), .ref (q 215), .ref (q 216), .int 0, .int 0])), ((q 201), .inl (k 1, 5340, .inl at0))] := hD
  refine W.eq (g2 := F0 m 1324 ls [.int (-1)]) rfl ?_
  refine lv_aload_n hx hb dL_law_1324 rfl (lv_at hl 1 rfl) ?_
  refine lv_aload_n hx hb dL_law_1325 rfl (lv_at hl 3 rfl) ?_
  refine lv_iload_n hx hb dL_law_1326 rfl (lv_at hl 0 rfl) ?_
  refine lv_iconst (v := 1) hx hb dL_law_1327 (by decide) ?_
  refine lv_iadd hx hb dL_law_1328 ?_
  refine lv_topi (fun x_5 ex_5 => ?_)
  obtain rfl : x_5 = 1 := ex_5.trans (by decide +kernel)
  refine va_sld hx hb hX hbl hbA hS (xin 1 6 rfl (by decide) (by decide)) dL_law_1329 ?_
  refine W.eq (g2 := F0 m 1330 ls [.int (xs 1), .ref (q 200), .int (-1)]) rfl ?_
  refine lv_aload_n hx hb dL_law_1330 rfl (lv_at hl 3 rfl) ?_
  refine lv_iload_n hx hb dL_law_1331 rfl (lv_at hl 0 rfl) ?_
  refine lv_iconst (v := 2) hx hb dL_law_1332 (by decide) ?_
  refine lv_iadd hx hb dL_law_1333 ?_
  refine lv_topi (fun x_6 ex_6 => ?_)
  obtain rfl : x_6 = 2 := ex_6.trans (by decide +kernel)
  refine va_sld hx hb hX hbl hbA hS (xin 2 6 rfl (by decide) (by decide)) dL_law_1334 ?_
  refine W.eq (g2 := F0 m 1335 ls [.int (xs 2), .int (xs 1), .ref (q 200), .int (-1)]) rfl ?_
  refine lv_aload_n hx hb dL_law_1335 rfl (lv_at hl 3 rfl) ?_
  refine lv_iload_n hx hb dL_law_1336 rfl (lv_at hl 0 rfl) ?_
  refine lv_iconst (v := 3) hx hb dL_law_1337 (by decide) ?_
  refine lv_iadd hx hb dL_law_1338 ?_
  refine lv_topi (fun x_7 ex_7 => ?_)
  obtain rfl : x_7 = 3 := ex_7.trans (by decide +kernel)
  refine va_sld hx hb hX hbl hbA hS (xin 3 6 rfl (by decide) (by decide)) dL_law_1339 ?_
  refine W.eq (g2 := F0 m 1340 ls [.int (xs 3), .int (xs 2), .int (xs 1), .ref (q 200), .int (-1)]) rfl ?_
  refine CWV (As := [.int (xs 1), .int (xs 2), .int (xs 3)]) (rest := [.int (-1)]) (wc := [((q 200), .inr (12, [.ref (q 201), .ref (q 202), .int 0, .long 0, .long 1, .ref (q 203), .ref (q 204), .ref (q 205), .ref (q 206), .ref (q 207), .int 0, .int 0, .int 0, .int 0, .int 0, .int 0, .int (-1), .int (-1), .int 0, .int 0, .int 0, .ref (q 208), .int 0, .int 0, .ref (q 209), .ref (q 210), .ref (q 211), .ref (q 212), .ref (q 213), .int 0, .int 0, .ref (q 214), .ref (q 215), .ref (q 216), .int 0, .int 0])), ((q 201), .inl (k 1, 5340, .inl at0))]) (wr := []) hx hb hml hown hts hKK hP hD hS hA (r_knows l D k q (xs 1) (xs 2) (xs 3)) ci_X12_knows qm_L_133 ⟨Nat.le_of_ble_eq_true rfl, Nat.le_of_ble_eq_true rfl⟩ ⟨Nat.le_of_ble_eq_true rfl, Nat.le_of_ble_eq_true rfl⟩ [0, 1] [] rfl rfl rfl rfl rfl (by decide) 0 rfl rfl rfl hl.1 rfl (Nat.le_of_ble_eq_true rfl) dL_law_1340 (fun u_8 H locs hφ hP hD hS => ?_)
  have hP : va_P D vwCl [] H := hP
  have hD : va_D A [] := hD
  refine W.eq (g2 := F0 m 1343 ls [.int (-1), .int (-1)]) rfl ?_
  refine lv_icmp_eq (tgt := 2849) hx hb dL_law_1343 (by decide) (fun _ => ?_) (fun c => absurd (by decide) c)
  exact law_done hx hb hr hlocks hX hbl hbA hAf hS (by decide) (by decide) hl
set_option maxHeartbeats 4000000 in
set_option maxRecDepth 100000 in
theorem law_c27 {p : Program} {e : Env} {s : State} {m : MethodId} {below : List Frame} {meth : Method} {c : Code} (l : Launch) {b : Nat} {xs : Nat → Int32} {A : Nat → Prop} {D : va_G} {k : Nat → ClassId} {q : Nat → Nat} {H : Heap} {locs : List Loc} {ls : Array Slot} (C : LC p s m meth c b xs A D k q H locs ls) : W p l e room_1 s m #[Value.ref b] below meth c H locs 123 16705 (lw_Z below #[Value.ref b] s) (F0 m 1348 ls []) := by
  obtain ⟨hx, hb, hr, hml, hown, hts, hKK, hX, hbl, hbA, hA, hAf, hlocks, hP, hD, hS, hl⟩ := C
  refine lv_aload_n hx hb dL_law_1348 rfl (lv_at hl 2 rfl) ?_
  refine lv_aload_n hx hb dL_law_1349 rfl (lv_at hl 3 rfl) ?_
  refine lv_iload_n hx hb dL_law_1350 rfl (lv_at hl 0 rfl) ?_
  refine lv_iconst (v := 1) hx hb dL_law_1351 (by decide) ?_
  refine lv_iadd hx hb dL_law_1352 ?_
  refine lv_topi (fun x_1 ex_1 => ?_)
  obtain rfl : x_1 = 1 := ex_1.trans (by decide +kernel)
  refine va_sld hx hb hX hbl hbA hS (xin 1 6 rfl (by decide) (by decide)) dL_law_1353 ?_
  refine W.eq (g2 := F0 m 1354 ls [.int (xs 1), .ref (q 0)]) rfl ?_
  refine lv_aload_n hx hb dL_law_1354 rfl (lv_at hl 3 rfl) ?_
  refine lv_iload_n hx hb dL_law_1355 rfl (lv_at hl 0 rfl) ?_
  refine lv_iconst (v := 2) hx hb dL_law_1356 (by decide) ?_
  refine lv_iadd hx hb dL_law_1357 ?_
  refine lv_topi (fun x_2 ex_2 => ?_)
  obtain rfl : x_2 = 2 := ex_2.trans (by decide +kernel)
  refine va_sld hx hb hX hbl hbA hS (xin 2 6 rfl (by decide) (by decide)) dL_law_1358 ?_
  refine W.eq (g2 := F0 m 1359 ls [.int (xs 2), .int (xs 1), .ref (q 0)]) rfl ?_
  refine lv_aload_n hx hb dL_law_1359 rfl (lv_at hl 3 rfl) ?_
  refine lv_iload_n hx hb dL_law_1360 rfl (lv_at hl 0 rfl) ?_
  refine lv_iconst (v := 3) hx hb dL_law_1361 (by decide) ?_
  refine lv_iadd hx hb dL_law_1362 ?_
  refine lv_topi (fun x_3 ex_3 => ?_)
  obtain rfl : x_3 = 3 := ex_3.trans (by decide +kernel)
  refine va_sld hx hb hX hbl hbA hS (xin 3 6 rfl (by decide) (by decide)) dL_law_1363 ?_
  refine W.eq (g2 := F0 m 1364 ls [.int (xs 3), .int (xs 2), .int (xs 1), .ref (q 0)]) rfl ?_
  refine CWV (As := [.int (xs 1), .int (xs 2), .int (xs 3)]) (rest := []) (wc := [((q 0), .inr (11, [.ref (q 1), .ref (q 2), .ref (q 3), .ref (q 4), .ref (q 5), .ref (q 6), .ref (q 7), .ref (q 8), .ref (q 9), .ref (q 10), .ref (q 11), .int 0, .int 0, .int 0, .long 0, .long 1])), ((q 2), .inr (8, [.ref (q 20), .ref (q 21), .ref (q 22)])), ((q 20), .inr (5, [.ref (q 23), .ref (q 24), .ref (q 25), .int 0, .int 0, .int 0, .int 0])), ((q 21), .inr (0, [.ref (q 26), .ref (q 27), .ref (q 28), .ref (q 29), .int 0, .int 0]))]) (wr := [((q 200), .inr (12, [.ref (q 201), .ref (q 202), .int 0, .long 0, .long 1, .ref (q 203), .ref (q 204), .ref (q 205), .ref (q 206), .ref (q 207), .int 0, .int 0, .int 0, .int 0, .int 0, .int 0, .int (-1), .int (-1), .int 0, .int 0, .int 0, .ref (q 208), .int 0, .int 0, .ref (q 209), .ref (q 210), .ref (q 211), .ref (q 212), .ref (q 213), .int 0, .int 0, .ref (q 214), .ref (q 215), .ref (q 216), .int 0, .int 0])), ((q 201), .inl (k 1, 5340, .inl at0))]) hx hb hml hown hts hKK hP hD hS hA (p_teller l D k q (xs 1) (xs 2) (xs 3)) ci_X11_teller qm_L_134 ⟨Nat.le_of_ble_eq_true rfl, Nat.le_of_ble_eq_true rfl⟩ ⟨Nat.le_of_ble_eq_true rfl, Nat.le_of_ble_eq_true rfl⟩ [0, 11, 12, 16] [66, 67] rfl rfl rfl rfl rfl (by decide) 0 rfl rfl rfl hl.1 rfl (Nat.le_of_ble_eq_true rfl) dL_law_1364 (fun u_4 H locs hφ hP hD hS => ?_)
  have hP : va_P D vwCl [((q 200), .inr (12, [.ref (q 201), .ref (q 202), .int 0, .long 0, .long 1, .ref (q 203), .ref (q 204), .ref (q 205), .ref (q 206), .ref (q 207), .int 0, .int 0, .int 0, .int 0, .int 0, .int 0, .int (-1), .int (-1), .int 0, .int 0, .int 0, .ref (q 208), .int 0, .int 0, .ref (q 209), .ref (q 210), .ref (q 211), .ref (q 212), .ref (q 213), .int 0, .int 0, .ref (q 214), .ref (q 215), .ref (q 216), .int 0, .int 0])), ((q 201), .inl (k 1, 5340, .inl at0))] H := hP
  have hD : va_D A [((q 200), .inr (12, [.ref (q 201), .ref (q 202), .int 0, .long 0, .long 1, .ref (q 203), .ref (q 204), .ref (q 205), .ref (q 206), .ref (q 207), .int 0, .int 0, .int 0, .int 0, .int 0, .int 0, .int (-1), .int (-1), .int 0, .int 0, .int 0, .ref (q 208), .int 0, .int 0, .ref (q 209), .ref (q 210), .ref (q 211), .ref (q 212), .ref (q 213), .int 0, .int 0, .ref (q 214), .ref (q 215), .ref (q 216), .int 0, .int 0])), ((q 201), .inl (k 1, 5340, .inl at0))] := hD
  refine W.eq (g2 := F0 m 1367 ls [.int (-1)]) rfl ?_
  refine lv_aload_n hx hb dL_law_1367 rfl (lv_at hl 1 rfl) ?_
  refine lv_aload_n hx hb dL_law_1368 rfl (lv_at hl 3 rfl) ?_
  refine lv_iload_n hx hb dL_law_1369 rfl (lv_at hl 0 rfl) ?_
  refine lv_iconst (v := 1) hx hb dL_law_1370 (by decide) ?_
  refine lv_iadd hx hb dL_law_1371 ?_
  refine lv_topi (fun x_5 ex_5 => ?_)
  obtain rfl : x_5 = 1 := ex_5.trans (by decide +kernel)
  refine va_sld hx hb hX hbl hbA hS (xin 1 6 rfl (by decide) (by decide)) dL_law_1372 ?_
  refine W.eq (g2 := F0 m 1373 ls [.int (xs 1), .ref (q 200), .int (-1)]) rfl ?_
  refine lv_aload_n hx hb dL_law_1373 rfl (lv_at hl 3 rfl) ?_
  refine lv_iload_n hx hb dL_law_1374 rfl (lv_at hl 0 rfl) ?_
  refine lv_iconst (v := 2) hx hb dL_law_1375 (by decide) ?_
  refine lv_iadd hx hb dL_law_1376 ?_
  refine lv_topi (fun x_6 ex_6 => ?_)
  obtain rfl : x_6 = 2 := ex_6.trans (by decide +kernel)
  refine va_sld hx hb hX hbl hbA hS (xin 2 6 rfl (by decide) (by decide)) dL_law_1377 ?_
  refine W.eq (g2 := F0 m 1378 ls [.int (xs 2), .int (xs 1), .ref (q 200), .int (-1)]) rfl ?_
  refine lv_aload_n hx hb dL_law_1378 rfl (lv_at hl 3 rfl) ?_
  refine lv_iload_n hx hb dL_law_1379 rfl (lv_at hl 0 rfl) ?_
  refine lv_iconst (v := 3) hx hb dL_law_1380 (by decide) ?_
  refine lv_iadd hx hb dL_law_1381 ?_
  refine lv_topi (fun x_7 ex_7 => ?_)
  obtain rfl : x_7 = 3 := ex_7.trans (by decide +kernel)
  refine va_sld hx hb hX hbl hbA hS (xin 3 6 rfl (by decide) (by decide)) dL_law_1382 ?_
  refine W.eq (g2 := F0 m 1383 ls [.int (xs 3), .int (xs 2), .int (xs 1), .ref (q 200), .int (-1)]) rfl ?_
  refine CWV (As := [.int (xs 1), .int (xs 2), .int (xs 3)]) (rest := [.int (-1)]) (wc := [((q 200), .inr (12, [.ref (q 201), .ref (q 202), .int 0, .long 0, .long 1, .ref (q 203), .ref (q 204), .ref (q 205), .ref (q 206), .ref (q 207), .int 0, .int 0, .int 0, .int 0, .int 0, .int 0, .int (-1), .int (-1), .int 0, .int 0, .int 0, .ref (q 208), .int 0, .int 0, .ref (q 209), .ref (q 210), .ref (q 211), .ref (q 212), .ref (q 213), .int 0, .int 0, .ref (q 214), .ref (q 215), .ref (q 216), .int 0, .int 0])), ((q 201), .inl (k 1, 5340, .inl at0))]) (wr := []) hx hb hml hown hts hKK hP hD hS hA (r_teller l D k q (xs 1) (xs 2) (xs 3)) ci_X12_teller qm_L_137 ⟨Nat.le_of_ble_eq_true rfl, Nat.le_of_ble_eq_true rfl⟩ ⟨Nat.le_of_ble_eq_true rfl, Nat.le_of_ble_eq_true rfl⟩ [0, 1] [] rfl rfl rfl rfl rfl (by decide) 0 rfl rfl rfl hl.1 rfl (Nat.le_of_ble_eq_true rfl) dL_law_1383 (fun u_8 H locs hφ hP hD hS => ?_)
  have hP : va_P D vwCl [] H := hP
  have hD : va_D A [] := hD
  refine W.eq (g2 := F0 m 1386 ls [.int (-1), .int (-1)]) rfl ?_
  refine lv_icmp_eq (tgt := 2849) hx hb dL_law_1386 (by decide) (fun _ => ?_) (fun c => absurd (by decide) c)
  exact law_done hx hb hr hlocks hX hbl hbA hAf hS (by decide) (by decide) hl
set_option maxHeartbeats 4000000 in
set_option maxRecDepth 100000 in
theorem law_c28 {p : Program} {e : Env} {s : State} {m : MethodId} {below : List Frame} {meth : Method} {c : Code} (l : Launch) {b : Nat} {xs : Nat → Int32} {A : Nat → Prop} {D : va_G} {k : Nat → ClassId} {q : Nat → Nat} {H : Heap} {locs : List Loc} {ls : Array Slot} (C : LC p s m meth c b xs A D k q H locs ls) : W p l e room_1 s m #[Value.ref b] below meth c H locs 123 16705 (lw_Z below #[Value.ref b] s) (F0 m 1391 ls []) := by
  obtain ⟨hx, hb, hr, hml, hown, hts, hKK, hX, hbl, hbA, hA, hAf, hlocks, hP, hD, hS, hl⟩ := C
  refine lv_aload_n hx hb dL_law_1391 rfl (lv_at hl 2 rfl) ?_
  refine lv_aload_n hx hb dL_law_1392 rfl (lv_at hl 3 rfl) ?_
  refine lv_iload_n hx hb dL_law_1393 rfl (lv_at hl 0 rfl) ?_
  refine lv_iconst (v := 1) hx hb dL_law_1394 (by decide) ?_
  refine lv_iadd hx hb dL_law_1395 ?_
  refine lv_topi (fun x_1 ex_1 => ?_)
  obtain rfl : x_1 = 1 := ex_1.trans (by decide +kernel)
  refine va_sld hx hb hX hbl hbA hS (xin 1 6 rfl (by decide) (by decide)) dL_law_1396 ?_
  refine W.eq (g2 := F0 m 1397 ls [.int (xs 1), .ref (q 0)]) rfl ?_
  refine lv_aload_n hx hb dL_law_1397 rfl (lv_at hl 3 rfl) ?_
  refine lv_iload_n hx hb dL_law_1398 rfl (lv_at hl 0 rfl) ?_
  refine lv_iconst (v := 2) hx hb dL_law_1399 (by decide) ?_
  refine lv_iadd hx hb dL_law_1400 ?_
  refine lv_topi (fun x_2 ex_2 => ?_)
  obtain rfl : x_2 = 2 := ex_2.trans (by decide +kernel)
  refine va_sld hx hb hX hbl hbA hS (xin 2 6 rfl (by decide) (by decide)) dL_law_1401 ?_
  refine W.eq (g2 := F0 m 1402 ls [.int (xs 2), .int (xs 1), .ref (q 0)]) rfl ?_
  refine lv_aload_n hx hb dL_law_1402 rfl (lv_at hl 3 rfl) ?_
  refine lv_iload_n hx hb dL_law_1403 rfl (lv_at hl 0 rfl) ?_
  refine lv_iconst (v := 3) hx hb dL_law_1404 (by decide) ?_
  refine lv_iadd hx hb dL_law_1405 ?_
  refine lv_topi (fun x_3 ex_3 => ?_)
  obtain rfl : x_3 = 3 := ex_3.trans (by decide +kernel)
  refine va_sld hx hb hX hbl hbA hS (xin 3 6 rfl (by decide) (by decide)) dL_law_1406 ?_
  refine W.eq (g2 := F0 m 1407 ls [.int (xs 3), .int (xs 2), .int (xs 1), .ref (q 0)]) rfl ?_
  refine CWV (As := [.int (xs 1), .int (xs 2), .int (xs 3)]) (rest := []) (wc := [((q 0), .inr (11, [.ref (q 1), .ref (q 2), .ref (q 3), .ref (q 4), .ref (q 5), .ref (q 6), .ref (q 7), .ref (q 8), .ref (q 9), .ref (q 10), .ref (q 11), .int 0, .int 0, .int 0, .long 0, .long 1])), ((q 2), .inr (8, [.ref (q 20), .ref (q 21), .ref (q 22)])), ((q 20), .inr (5, [.ref (q 23), .ref (q 24), .ref (q 25), .int 0, .int 0, .int 0, .int 0])), ((q 21), .inr (0, [.ref (q 26), .ref (q 27), .ref (q 28), .ref (q 29), .int 0, .int 0]))]) (wr := [((q 200), .inr (12, [.ref (q 201), .ref (q 202), .int 0, .long 0, .long 1, .ref (q 203), .ref (q 204), .ref (q 205), .ref (q 206), .ref (q 207), .int 0, .int 0, .int 0, .int 0, .int 0, .int 0, .int (-1), .int (-1), .int 0, .int 0, .int 0, .ref (q 208), .int 0, .int 0, .ref (q 209), .ref (q 210), .ref (q 211), .ref (q 212), .ref (q 213), .int 0, .int 0, .ref (q 214), .ref (q 215), .ref (q 216), .int 0, .int 0])), ((q 201), .inl (k 1, 5340, .inl at0))]) hx hb hml hown hts hKK hP hD hS hA (p_hops l D k q (xs 1) (xs 2) (xs 3)) ci_X11_hops qm_L_138 ⟨Nat.le_of_ble_eq_true rfl, Nat.le_of_ble_eq_true rfl⟩ ⟨Nat.le_of_ble_eq_true rfl, Nat.le_of_ble_eq_true rfl⟩ [0, 11, 12, 16] [66, 67] rfl rfl rfl rfl rfl (by decide) 0 rfl rfl rfl hl.1 rfl (Nat.le_of_ble_eq_true rfl) dL_law_1407 (fun u_4 H locs hφ hP hD hS => ?_)
  have hP : va_P D vwCl [((q 200), .inr (12, [.ref (q 201), .ref (q 202), .int 0, .long 0, .long 1, .ref (q 203), .ref (q 204), .ref (q 205), .ref (q 206), .ref (q 207), .int 0, .int 0, .int 0, .int 0, .int 0, .int 0, .int (-1), .int (-1), .int 0, .int 0, .int 0, .ref (q 208), .int 0, .int 0, .ref (q 209), .ref (q 210), .ref (q 211), .ref (q 212), .ref (q 213), .int 0, .int 0, .ref (q 214), .ref (q 215), .ref (q 216), .int 0, .int 0])), ((q 201), .inl (k 1, 5340, .inl at0))] H := hP
  have hD : va_D A [((q 200), .inr (12, [.ref (q 201), .ref (q 202), .int 0, .long 0, .long 1, .ref (q 203), .ref (q 204), .ref (q 205), .ref (q 206), .ref (q 207), .int 0, .int 0, .int 0, .int 0, .int 0, .int 0, .int (-1), .int (-1), .int 0, .int 0, .int 0, .ref (q 208), .int 0, .int 0, .ref (q 209), .ref (q 210), .ref (q 211), .ref (q 212), .ref (q 213), .int 0, .int 0, .ref (q 214), .ref (q 215), .ref (q 216), .int 0, .int 0])), ((q 201), .inl (k 1, 5340, .inl at0))] := hD
  refine W.eq (g2 := F0 m 1410 ls [.int (-1)]) rfl ?_
  refine lv_aload_n hx hb dL_law_1410 rfl (lv_at hl 1 rfl) ?_
  refine lv_aload_n hx hb dL_law_1411 rfl (lv_at hl 3 rfl) ?_
  refine lv_iload_n hx hb dL_law_1412 rfl (lv_at hl 0 rfl) ?_
  refine lv_iconst (v := 1) hx hb dL_law_1413 (by decide) ?_
  refine lv_iadd hx hb dL_law_1414 ?_
  refine lv_topi (fun x_5 ex_5 => ?_)
  obtain rfl : x_5 = 1 := ex_5.trans (by decide +kernel)
  refine va_sld hx hb hX hbl hbA hS (xin 1 6 rfl (by decide) (by decide)) dL_law_1415 ?_
  refine W.eq (g2 := F0 m 1416 ls [.int (xs 1), .ref (q 200), .int (-1)]) rfl ?_
  refine lv_aload_n hx hb dL_law_1416 rfl (lv_at hl 3 rfl) ?_
  refine lv_iload_n hx hb dL_law_1417 rfl (lv_at hl 0 rfl) ?_
  refine lv_iconst (v := 2) hx hb dL_law_1418 (by decide) ?_
  refine lv_iadd hx hb dL_law_1419 ?_
  refine lv_topi (fun x_6 ex_6 => ?_)
  obtain rfl : x_6 = 2 := ex_6.trans (by decide +kernel)
  refine va_sld hx hb hX hbl hbA hS (xin 2 6 rfl (by decide) (by decide)) dL_law_1420 ?_
  refine W.eq (g2 := F0 m 1421 ls [.int (xs 2), .int (xs 1), .ref (q 200), .int (-1)]) rfl ?_
  refine lv_aload_n hx hb dL_law_1421 rfl (lv_at hl 3 rfl) ?_
  refine lv_iload_n hx hb dL_law_1422 rfl (lv_at hl 0 rfl) ?_
  refine lv_iconst (v := 3) hx hb dL_law_1423 (by decide) ?_
  refine lv_iadd hx hb dL_law_1424 ?_
  refine lv_topi (fun x_7 ex_7 => ?_)
  obtain rfl : x_7 = 3 := ex_7.trans (by decide +kernel)
  refine va_sld hx hb hX hbl hbA hS (xin 3 6 rfl (by decide) (by decide)) dL_law_1425 ?_
  refine W.eq (g2 := F0 m 1426 ls [.int (xs 3), .int (xs 2), .int (xs 1), .ref (q 200), .int (-1)]) rfl ?_
  refine CWV (As := [.int (xs 1), .int (xs 2), .int (xs 3)]) (rest := [.int (-1)]) (wc := [((q 200), .inr (12, [.ref (q 201), .ref (q 202), .int 0, .long 0, .long 1, .ref (q 203), .ref (q 204), .ref (q 205), .ref (q 206), .ref (q 207), .int 0, .int 0, .int 0, .int 0, .int 0, .int 0, .int (-1), .int (-1), .int 0, .int 0, .int 0, .ref (q 208), .int 0, .int 0, .ref (q 209), .ref (q 210), .ref (q 211), .ref (q 212), .ref (q 213), .int 0, .int 0, .ref (q 214), .ref (q 215), .ref (q 216), .int 0, .int 0])), ((q 201), .inl (k 1, 5340, .inl at0))]) (wr := []) hx hb hml hown hts hKK hP hD hS hA (r_hops l D k q (xs 1) (xs 2) (xs 3)) ci_X12_hops qm_L_141 ⟨Nat.le_of_ble_eq_true rfl, Nat.le_of_ble_eq_true rfl⟩ ⟨Nat.le_of_ble_eq_true rfl, Nat.le_of_ble_eq_true rfl⟩ [0, 1] [] rfl rfl rfl rfl rfl (by decide) 0 rfl rfl rfl hl.1 rfl (Nat.le_of_ble_eq_true rfl) dL_law_1426 (fun u_8 H locs hφ hP hD hS => ?_)
  have hP : va_P D vwCl [] H := hP
  have hD : va_D A [] := hD
  refine W.eq (g2 := F0 m 1429 ls [.int (-1), .int (-1)]) rfl ?_
  refine lv_icmp_eq (tgt := 2849) hx hb dL_law_1429 (by decide) (fun _ => ?_) (fun c => absurd (by decide) c)
  exact law_done hx hb hr hlocks hX hbl hbA hAf hS (by decide) (by decide) hl
set_option maxHeartbeats 4000000 in
set_option maxRecDepth 100000 in
theorem law_c29 {p : Program} {e : Env} {s : State} {m : MethodId} {below : List Frame} {meth : Method} {c : Code} (l : Launch) {b : Nat} {xs : Nat → Int32} {A : Nat → Prop} {D : va_G} {k : Nat → ClassId} {q : Nat → Nat} {H : Heap} {locs : List Loc} {ls : Array Slot} (C : LC p s m meth c b xs A D k q H locs ls) : W p l e room_1 s m #[Value.ref b] below meth c H locs 123 16705 (lw_Z below #[Value.ref b] s) (F0 m 1434 ls []) := by
  obtain ⟨hx, hb, hr, hml, hown, hts, hKK, hX, hbl, hbA, hA, hAf, hlocks, hP, hD, hS, hl⟩ := C
  refine lv_aload_n hx hb dL_law_1434 rfl (lv_at hl 2 rfl) ?_
  refine lv_aload_n hx hb dL_law_1435 rfl (lv_at hl 3 rfl) ?_
  refine lv_iload_n hx hb dL_law_1436 rfl (lv_at hl 0 rfl) ?_
  refine lv_iconst (v := 1) hx hb dL_law_1437 (by decide) ?_
  refine lv_iadd hx hb dL_law_1438 ?_
  refine lv_topi (fun x_1 ex_1 => ?_)
  obtain rfl : x_1 = 1 := ex_1.trans (by decide +kernel)
  refine va_sld hx hb hX hbl hbA hS (xin 1 6 rfl (by decide) (by decide)) dL_law_1439 ?_
  refine W.eq (g2 := F0 m 1440 ls [.int (xs 1), .ref (q 0)]) rfl ?_
  refine lv_aload_n hx hb dL_law_1440 rfl (lv_at hl 3 rfl) ?_
  refine lv_iload_n hx hb dL_law_1441 rfl (lv_at hl 0 rfl) ?_
  refine lv_iconst (v := 2) hx hb dL_law_1442 (by decide) ?_
  refine lv_iadd hx hb dL_law_1443 ?_
  refine lv_topi (fun x_2 ex_2 => ?_)
  obtain rfl : x_2 = 2 := ex_2.trans (by decide +kernel)
  refine va_sld hx hb hX hbl hbA hS (xin 2 6 rfl (by decide) (by decide)) dL_law_1444 ?_
  refine W.eq (g2 := F0 m 1445 ls [.int (xs 2), .int (xs 1), .ref (q 0)]) rfl ?_
  refine lv_aload_n hx hb dL_law_1445 rfl (lv_at hl 3 rfl) ?_
  refine lv_iload_n hx hb dL_law_1446 rfl (lv_at hl 0 rfl) ?_
  refine lv_iconst (v := 3) hx hb dL_law_1447 (by decide) ?_
  refine lv_iadd hx hb dL_law_1448 ?_
  refine lv_topi (fun x_3 ex_3 => ?_)
  obtain rfl : x_3 = 3 := ex_3.trans (by decide +kernel)
  refine va_sld hx hb hX hbl hbA hS (xin 3 6 rfl (by decide) (by decide)) dL_law_1449 ?_
  refine W.eq (g2 := F0 m 1450 ls [.int (xs 3), .int (xs 2), .int (xs 1), .ref (q 0)]) rfl ?_
  refine CWV (As := [.int (xs 1), .int (xs 2), .int (xs 3)]) (rest := []) (wc := [((q 0), .inr (11, [.ref (q 1), .ref (q 2), .ref (q 3), .ref (q 4), .ref (q 5), .ref (q 6), .ref (q 7), .ref (q 8), .ref (q 9), .ref (q 10), .ref (q 11), .int 0, .int 0, .int 0, .long 0, .long 1])), ((q 2), .inr (8, [.ref (q 20), .ref (q 21), .ref (q 22)])), ((q 20), .inr (5, [.ref (q 23), .ref (q 24), .ref (q 25), .int 0, .int 0, .int 0, .int 0])), ((q 21), .inr (0, [.ref (q 26), .ref (q 27), .ref (q 28), .ref (q 29), .int 0, .int 0]))]) (wr := [((q 200), .inr (12, [.ref (q 201), .ref (q 202), .int 0, .long 0, .long 1, .ref (q 203), .ref (q 204), .ref (q 205), .ref (q 206), .ref (q 207), .int 0, .int 0, .int 0, .int 0, .int 0, .int 0, .int (-1), .int (-1), .int 0, .int 0, .int 0, .ref (q 208), .int 0, .int 0, .ref (q 209), .ref (q 210), .ref (q 211), .ref (q 212), .ref (q 213), .int 0, .int 0, .ref (q 214), .ref (q 215), .ref (q 216), .int 0, .int 0])), ((q 201), .inl (k 1, 5340, .inl at0))]) hx hb hml hown hts hKK hP hD hS hA (p_knowing l D k q (xs 1) (xs 2) (xs 3)) ci_X11_knowing qm_L_142 ⟨Nat.le_of_ble_eq_true rfl, Nat.le_of_ble_eq_true rfl⟩ ⟨Nat.le_of_ble_eq_true rfl, Nat.le_of_ble_eq_true rfl⟩ [0, 11, 12, 16] [66, 67] rfl rfl rfl rfl rfl (by decide) 0 rfl rfl rfl hl.1 rfl (Nat.le_of_ble_eq_true rfl) dL_law_1450 (fun u_4 H locs hφ hP hD hS => ?_)
  have hP : va_P D vwCl [((q 200), .inr (12, [.ref (q 201), .ref (q 202), .int 0, .long 0, .long 1, .ref (q 203), .ref (q 204), .ref (q 205), .ref (q 206), .ref (q 207), .int 0, .int 0, .int 0, .int 0, .int 0, .int 0, .int (-1), .int (-1), .int 0, .int 0, .int 0, .ref (q 208), .int 0, .int 0, .ref (q 209), .ref (q 210), .ref (q 211), .ref (q 212), .ref (q 213), .int 0, .int 0, .ref (q 214), .ref (q 215), .ref (q 216), .int 0, .int 0])), ((q 201), .inl (k 1, 5340, .inl at0))] H := hP
  have hD : va_D A [((q 200), .inr (12, [.ref (q 201), .ref (q 202), .int 0, .long 0, .long 1, .ref (q 203), .ref (q 204), .ref (q 205), .ref (q 206), .ref (q 207), .int 0, .int 0, .int 0, .int 0, .int 0, .int 0, .int (-1), .int (-1), .int 0, .int 0, .int 0, .ref (q 208), .int 0, .int 0, .ref (q 209), .ref (q 210), .ref (q 211), .ref (q 212), .ref (q 213), .int 0, .int 0, .ref (q 214), .ref (q 215), .ref (q 216), .int 0, .int 0])), ((q 201), .inl (k 1, 5340, .inl at0))] := hD
  refine W.eq (g2 := F0 m 1453 ls [.int (-1)]) rfl ?_
  refine lv_aload_n hx hb dL_law_1453 rfl (lv_at hl 1 rfl) ?_
  refine lv_aload_n hx hb dL_law_1454 rfl (lv_at hl 3 rfl) ?_
  refine lv_iload_n hx hb dL_law_1455 rfl (lv_at hl 0 rfl) ?_
  refine lv_iconst (v := 1) hx hb dL_law_1456 (by decide) ?_
  refine lv_iadd hx hb dL_law_1457 ?_
  refine lv_topi (fun x_5 ex_5 => ?_)
  obtain rfl : x_5 = 1 := ex_5.trans (by decide +kernel)
  refine va_sld hx hb hX hbl hbA hS (xin 1 6 rfl (by decide) (by decide)) dL_law_1458 ?_
  refine W.eq (g2 := F0 m 1459 ls [.int (xs 1), .ref (q 200), .int (-1)]) rfl ?_
  refine lv_aload_n hx hb dL_law_1459 rfl (lv_at hl 3 rfl) ?_
  refine lv_iload_n hx hb dL_law_1460 rfl (lv_at hl 0 rfl) ?_
  refine lv_iconst (v := 2) hx hb dL_law_1461 (by decide) ?_
  refine lv_iadd hx hb dL_law_1462 ?_
  refine lv_topi (fun x_6 ex_6 => ?_)
  obtain rfl : x_6 = 2 := ex_6.trans (by decide +kernel)
  refine va_sld hx hb hX hbl hbA hS (xin 2 6 rfl (by decide) (by decide)) dL_law_1463 ?_
  refine W.eq (g2 := F0 m 1464 ls [.int (xs 2), .int (xs 1), .ref (q 200), .int (-1)]) rfl ?_
  refine lv_aload_n hx hb dL_law_1464 rfl (lv_at hl 3 rfl) ?_
  refine lv_iload_n hx hb dL_law_1465 rfl (lv_at hl 0 rfl) ?_
  refine lv_iconst (v := 3) hx hb dL_law_1466 (by decide) ?_
  refine lv_iadd hx hb dL_law_1467 ?_
  refine lv_topi (fun x_7 ex_7 => ?_)
  obtain rfl : x_7 = 3 := ex_7.trans (by decide +kernel)
  refine va_sld hx hb hX hbl hbA hS (xin 3 6 rfl (by decide) (by decide)) dL_law_1468 ?_
  refine W.eq (g2 := F0 m 1469 ls [.int (xs 3), .int (xs 2), .int (xs 1), .ref (q 200), .int (-1)]) rfl ?_
  refine CWV (As := [.int (xs 1), .int (xs 2), .int (xs 3)]) (rest := [.int (-1)]) (wc := [((q 200), .inr (12, [.ref (q 201), .ref (q 202), .int 0, .long 0, .long 1, .ref (q 203), .ref (q 204), .ref (q 205), .ref (q 206), .ref (q 207), .int 0, .int 0, .int 0, .int 0, .int 0, .int 0, .int (-1), .int (-1), .int 0, .int 0, .int 0, .ref (q 208), .int 0, .int 0, .ref (q 209), .ref (q 210), .ref (q 211), .ref (q 212), .ref (q 213), .int 0, .int 0, .ref (q 214), .ref (q 215), .ref (q 216), .int 0, .int 0])), ((q 201), .inl (k 1, 5340, .inl at0))]) (wr := []) hx hb hml hown hts hKK hP hD hS hA (r_knowing l D k q (xs 1) (xs 2) (xs 3)) ci_X12_knowing qm_L_145 ⟨Nat.le_of_ble_eq_true rfl, Nat.le_of_ble_eq_true rfl⟩ ⟨Nat.le_of_ble_eq_true rfl, Nat.le_of_ble_eq_true rfl⟩ [0, 1] [] rfl rfl rfl rfl rfl (by decide) 0 rfl rfl rfl hl.1 rfl (Nat.le_of_ble_eq_true rfl) dL_law_1469 (fun u_8 H locs hφ hP hD hS => ?_)
  have hP : va_P D vwCl [] H := hP
  have hD : va_D A [] := hD
  refine W.eq (g2 := F0 m 1472 ls [.int (-1), .int (-1)]) rfl ?_
  refine lv_icmp_eq (tgt := 2849) hx hb dL_law_1472 (by decide) (fun _ => ?_) (fun c => absurd (by decide) c)
  exact law_done hx hb hr hlocks hX hbl hbA hAf hS (by decide) (by decide) hl
set_option maxHeartbeats 4000000 in
set_option maxRecDepth 100000 in
theorem law_c30 {p : Program} {e : Env} {s : State} {m : MethodId} {below : List Frame} {meth : Method} {c : Code} (l : Launch) {b : Nat} {xs : Nat → Int32} {A : Nat → Prop} {D : va_G} {k : Nat → ClassId} {q : Nat → Nat} {H : Heap} {locs : List Loc} {ls : Array Slot} (C : LC p s m meth c b xs A D k q H locs ls) : W p l e room_1 s m #[Value.ref b] below meth c H locs 123 16705 (lw_Z below #[Value.ref b] s) (F0 m 1477 ls []) := by
  obtain ⟨hx, hb, hr, hml, hown, hts, hKK, hX, hbl, hbA, hA, hAf, hlocks, hP, hD, hS, hl⟩ := C
  refine lv_aload_n hx hb dL_law_1477 rfl (lv_at hl 2 rfl) ?_
  refine lv_aload_n hx hb dL_law_1478 rfl (lv_at hl 3 rfl) ?_
  refine lv_iload_n hx hb dL_law_1479 rfl (lv_at hl 0 rfl) ?_
  refine lv_iconst (v := 1) hx hb dL_law_1480 (by decide) ?_
  refine lv_iadd hx hb dL_law_1481 ?_
  refine lv_topi (fun x_1 ex_1 => ?_)
  obtain rfl : x_1 = 1 := ex_1.trans (by decide +kernel)
  refine va_sld hx hb hX hbl hbA hS (xin 1 6 rfl (by decide) (by decide)) dL_law_1482 ?_
  refine W.eq (g2 := F0 m 1483 ls [.int (xs 1), .ref (q 0)]) rfl ?_
  refine lv_aload_n hx hb dL_law_1483 rfl (lv_at hl 3 rfl) ?_
  refine lv_iload_n hx hb dL_law_1484 rfl (lv_at hl 0 rfl) ?_
  refine lv_iconst (v := 2) hx hb dL_law_1485 (by decide) ?_
  refine lv_iadd hx hb dL_law_1486 ?_
  refine lv_topi (fun x_2 ex_2 => ?_)
  obtain rfl : x_2 = 2 := ex_2.trans (by decide +kernel)
  refine va_sld hx hb hX hbl hbA hS (xin 2 6 rfl (by decide) (by decide)) dL_law_1487 ?_
  refine W.eq (g2 := F0 m 1488 ls [.int (xs 2), .int (xs 1), .ref (q 0)]) rfl ?_
  refine CWV (As := [.int (xs 1), .int (xs 2)]) (rest := []) (wc := [((q 0), .inr (11, [.ref (q 1), .ref (q 2), .ref (q 3), .ref (q 4), .ref (q 5), .ref (q 6), .ref (q 7), .ref (q 8), .ref (q 9), .ref (q 10), .ref (q 11), .int 0, .int 0, .int 0, .long 0, .long 1])), ((q 2), .inr (8, [.ref (q 20), .ref (q 21), .ref (q 22)])), ((q 20), .inr (5, [.ref (q 23), .ref (q 24), .ref (q 25), .int 0, .int 0, .int 0, .int 0])), ((q 21), .inr (0, [.ref (q 26), .ref (q 27), .ref (q 28), .ref (q 29), .int 0, .int 0]))]) (wr := [((q 200), .inr (12, [.ref (q 201), .ref (q 202), .int 0, .long 0, .long 1, .ref (q 203), .ref (q 204), .ref (q 205), .ref (q 206), .ref (q 207), .int 0, .int 0, .int 0, .int 0, .int 0, .int 0, .int (-1), .int (-1), .int 0, .int 0, .int 0, .ref (q 208), .int 0, .int 0, .ref (q 209), .ref (q 210), .ref (q 211), .ref (q 212), .ref (q 213), .int 0, .int 0, .ref (q 214), .ref (q 215), .ref (q 216), .int 0, .int 0])), ((q 201), .inl (k 1, 5340, .inl at0))]) hx hb hml hown hts hKK hP hD hS hA (p_overtaken l D k q (xs 1) (xs 2)) ci_X11_overtaken qm_L_146 ⟨Nat.le_of_ble_eq_true rfl, Nat.le_of_ble_eq_true rfl⟩ ⟨Nat.le_of_ble_eq_true rfl, Nat.le_of_ble_eq_true rfl⟩ [0, 11, 12, 16] [66, 67] rfl rfl rfl rfl rfl (by decide) 0 rfl rfl rfl hl.1 rfl (Nat.le_of_ble_eq_true rfl) dL_law_1488 (fun u_3 H locs hφ hP hD hS => ?_)
  have hP : va_P D vwCl [((q 200), .inr (12, [.ref (q 201), .ref (q 202), .int 0, .long 0, .long 1, .ref (q 203), .ref (q 204), .ref (q 205), .ref (q 206), .ref (q 207), .int 0, .int 0, .int 0, .int 0, .int 0, .int 0, .int (-1), .int (-1), .int 0, .int 0, .int 0, .ref (q 208), .int 0, .int 0, .ref (q 209), .ref (q 210), .ref (q 211), .ref (q 212), .ref (q 213), .int 0, .int 0, .ref (q 214), .ref (q 215), .ref (q 216), .int 0, .int 0])), ((q 201), .inl (k 1, 5340, .inl at0))] H := hP
  have hD : va_D A [((q 200), .inr (12, [.ref (q 201), .ref (q 202), .int 0, .long 0, .long 1, .ref (q 203), .ref (q 204), .ref (q 205), .ref (q 206), .ref (q 207), .int 0, .int 0, .int 0, .int 0, .int 0, .int 0, .int (-1), .int (-1), .int 0, .int 0, .int 0, .ref (q 208), .int 0, .int 0, .ref (q 209), .ref (q 210), .ref (q 211), .ref (q 212), .ref (q 213), .int 0, .int 0, .ref (q 214), .ref (q 215), .ref (q 216), .int 0, .int 0])), ((q 201), .inl (k 1, 5340, .inl at0))] := hD
  refine W.eq (g2 := F0 m 1491 ls [.int (-1)]) rfl ?_
  refine lv_aload_n hx hb dL_law_1491 rfl (lv_at hl 1 rfl) ?_
  refine lv_aload_n hx hb dL_law_1492 rfl (lv_at hl 3 rfl) ?_
  refine lv_iload_n hx hb dL_law_1493 rfl (lv_at hl 0 rfl) ?_
  refine lv_iconst (v := 1) hx hb dL_law_1494 (by decide) ?_
  refine lv_iadd hx hb dL_law_1495 ?_
  refine lv_topi (fun x_4 ex_4 => ?_)
  obtain rfl : x_4 = 1 := ex_4.trans (by decide +kernel)
  refine va_sld hx hb hX hbl hbA hS (xin 1 6 rfl (by decide) (by decide)) dL_law_1496 ?_
  refine W.eq (g2 := F0 m 1497 ls [.int (xs 1), .ref (q 200), .int (-1)]) rfl ?_
  refine lv_aload_n hx hb dL_law_1497 rfl (lv_at hl 3 rfl) ?_
  refine lv_iload_n hx hb dL_law_1498 rfl (lv_at hl 0 rfl) ?_
  refine lv_iconst (v := 2) hx hb dL_law_1499 (by decide) ?_
  refine lv_iadd hx hb dL_law_1500 ?_
  refine lv_topi (fun x_5 ex_5 => ?_)
  obtain rfl : x_5 = 2 := ex_5.trans (by decide +kernel)
  refine va_sld hx hb hX hbl hbA hS (xin 2 6 rfl (by decide) (by decide)) dL_law_1501 ?_
  refine W.eq (g2 := F0 m 1502 ls [.int (xs 2), .int (xs 1), .ref (q 200), .int (-1)]) rfl ?_
  refine CWV (As := [.int (xs 1), .int (xs 2)]) (rest := [.int (-1)]) (wc := [((q 200), .inr (12, [.ref (q 201), .ref (q 202), .int 0, .long 0, .long 1, .ref (q 203), .ref (q 204), .ref (q 205), .ref (q 206), .ref (q 207), .int 0, .int 0, .int 0, .int 0, .int 0, .int 0, .int (-1), .int (-1), .int 0, .int 0, .int 0, .ref (q 208), .int 0, .int 0, .ref (q 209), .ref (q 210), .ref (q 211), .ref (q 212), .ref (q 213), .int 0, .int 0, .ref (q 214), .ref (q 215), .ref (q 216), .int 0, .int 0])), ((q 201), .inl (k 1, 5340, .inl at0))]) (wr := []) hx hb hml hown hts hKK hP hD hS hA (r_overtaken l D k q (xs 1) (xs 2)) ci_X12_overtaken qm_L_149 ⟨Nat.le_of_ble_eq_true rfl, Nat.le_of_ble_eq_true rfl⟩ ⟨Nat.le_of_ble_eq_true rfl, Nat.le_of_ble_eq_true rfl⟩ [0, 1] [] rfl rfl rfl rfl rfl (by decide) 0 rfl rfl rfl hl.1 rfl (Nat.le_of_ble_eq_true rfl) dL_law_1502 (fun u_6 H locs hφ hP hD hS => ?_)
  have hP : va_P D vwCl [] H := hP
  have hD : va_D A [] := hD
  refine W.eq (g2 := F0 m 1505 ls [.int (-1), .int (-1)]) rfl ?_
  refine lv_icmp_eq (tgt := 2849) hx hb dL_law_1505 (by decide) (fun _ => ?_) (fun c => absurd (by decide) c)
  exact law_done hx hb hr hlocks hX hbl hbA hAf hS (by decide) (by decide) hl
set_option maxHeartbeats 4000000 in
set_option maxRecDepth 100000 in
theorem law_c31 {p : Program} {e : Env} {s : State} {m : MethodId} {below : List Frame} {meth : Method} {c : Code} (l : Launch) {b : Nat} {xs : Nat → Int32} {A : Nat → Prop} {D : va_G} {k : Nat → ClassId} {q : Nat → Nat} {H : Heap} {locs : List Loc} {ls : Array Slot} (C : LC p s m meth c b xs A D k q H locs ls) : W p l e room_1 s m #[Value.ref b] below meth c H locs 123 16705 (lw_Z below #[Value.ref b] s) (F0 m 1510 ls []) := by
  obtain ⟨hx, hb, hr, hml, hown, hts, hKK, hX, hbl, hbA, hA, hAf, hlocks, hP, hD, hS, hl⟩ := C
  refine lv_aload_n hx hb dL_law_1510 rfl (lv_at hl 2 rfl) ?_
  refine lv_aload_n hx hb dL_law_1511 rfl (lv_at hl 3 rfl) ?_
  refine lv_iload_n hx hb dL_law_1512 rfl (lv_at hl 0 rfl) ?_
  refine lv_iconst (v := 1) hx hb dL_law_1513 (by decide) ?_
  refine lv_iadd hx hb dL_law_1514 ?_
  refine lv_topi (fun x_1 ex_1 => ?_)
  obtain rfl : x_1 = 1 := ex_1.trans (by decide +kernel)
  refine va_sld hx hb hX hbl hbA hS (xin 1 6 rfl (by decide) (by decide)) dL_law_1515 ?_
  refine W.eq (g2 := F0 m 1516 ls [.int (xs 1), .ref (q 0)]) rfl ?_
  refine lv_aload_n hx hb dL_law_1516 rfl (lv_at hl 3 rfl) ?_
  refine lv_iload_n hx hb dL_law_1517 rfl (lv_at hl 0 rfl) ?_
  refine lv_iconst (v := 2) hx hb dL_law_1518 (by decide) ?_
  refine lv_iadd hx hb dL_law_1519 ?_
  refine lv_topi (fun x_2 ex_2 => ?_)
  obtain rfl : x_2 = 2 := ex_2.trans (by decide +kernel)
  refine va_sld hx hb hX hbl hbA hS (xin 2 6 rfl (by decide) (by decide)) dL_law_1520 ?_
  refine W.eq (g2 := F0 m 1521 ls [.int (xs 2), .int (xs 1), .ref (q 0)]) rfl ?_
  refine lv_aload_n hx hb dL_law_1521 rfl (lv_at hl 3 rfl) ?_
  refine lv_iload_n hx hb dL_law_1522 rfl (lv_at hl 0 rfl) ?_
  refine lv_iconst (v := 3) hx hb dL_law_1523 (by decide) ?_
  refine lv_iadd hx hb dL_law_1524 ?_
  refine lv_topi (fun x_3 ex_3 => ?_)
  obtain rfl : x_3 = 3 := ex_3.trans (by decide +kernel)
  refine va_sld hx hb hX hbl hbA hS (xin 3 6 rfl (by decide) (by decide)) dL_law_1525 ?_
  refine W.eq (g2 := F0 m 1526 ls [.int (xs 3), .int (xs 2), .int (xs 1), .ref (q 0)]) rfl ?_
  refine CWV (As := [.int (xs 1), .int (xs 2), .int (xs 3)]) (rest := []) (wc := [((q 0), .inr (11, [.ref (q 1), .ref (q 2), .ref (q 3), .ref (q 4), .ref (q 5), .ref (q 6), .ref (q 7), .ref (q 8), .ref (q 9), .ref (q 10), .ref (q 11), .int 0, .int 0, .int 0, .long 0, .long 1])), ((q 2), .inr (8, [.ref (q 20), .ref (q 21), .ref (q 22)])), ((q 20), .inr (5, [.ref (q 23), .ref (q 24), .ref (q 25), .int 0, .int 0, .int 0, .int 0])), ((q 21), .inr (0, [.ref (q 26), .ref (q 27), .ref (q 28), .ref (q 29), .int 0, .int 0]))]) (wr := [((q 200), .inr (12, [.ref (q 201), .ref (q 202), .int 0, .long 0, .long 1, .ref (q 203), .ref (q 204), .ref (q 205), .ref (q 206), .ref (q 207), .int 0, .int 0, .int 0, .int 0, .int 0, .int 0, .int (-1), .int (-1), .int 0, .int 0, .int 0, .ref (q 208), .int 0, .int 0, .ref (q 209), .ref (q 210), .ref (q 211), .ref (q 212), .ref (q 213), .int 0, .int 0, .ref (q 214), .ref (q 215), .ref (q 216), .int 0, .int 0])), ((q 201), .inl (k 1, 5340, .inl at0))]) hx hb hml hown hts hKK hP hD hS hA (p_early l D k q (xs 1) (xs 2) (xs 3)) ci_X11_early qm_L_150 ⟨Nat.le_of_ble_eq_true rfl, Nat.le_of_ble_eq_true rfl⟩ ⟨Nat.le_of_ble_eq_true rfl, Nat.le_of_ble_eq_true rfl⟩ [0, 11, 12, 16] [66, 67] rfl rfl rfl rfl rfl (by decide) 0 rfl rfl rfl hl.1 rfl (Nat.le_of_ble_eq_true rfl) dL_law_1526 (fun u_4 H locs hφ hP hD hS => ?_)
  have hP : va_P D vwCl [((q 200), .inr (12, [.ref (q 201), .ref (q 202), .int 0, .long 0, .long 1, .ref (q 203), .ref (q 204), .ref (q 205), .ref (q 206), .ref (q 207), .int 0, .int 0, .int 0, .int 0, .int 0, .int 0, .int (-1), .int (-1), .int 0, .int 0, .int 0, .ref (q 208), .int 0, .int 0, .ref (q 209), .ref (q 210), .ref (q 211), .ref (q 212), .ref (q 213), .int 0, .int 0, .ref (q 214), .ref (q 215), .ref (q 216), .int 0, .int 0])), ((q 201), .inl (k 1, 5340, .inl at0))] H := hP
  have hD : va_D A [((q 200), .inr (12, [.ref (q 201), .ref (q 202), .int 0, .long 0, .long 1, .ref (q 203), .ref (q 204), .ref (q 205), .ref (q 206), .ref (q 207), .int 0, .int 0, .int 0, .int 0, .int 0, .int 0, .int (-1), .int (-1), .int 0, .int 0, .int 0, .ref (q 208), .int 0, .int 0, .ref (q 209), .ref (q 210), .ref (q 211), .ref (q 212), .ref (q 213), .int 0, .int 0, .ref (q 214), .ref (q 215), .ref (q 216), .int 0, .int 0])), ((q 201), .inl (k 1, 5340, .inl at0))] := hD
  refine W.eq (g2 := F0 m 1529 ls [.int (-1)]) rfl ?_
  refine lv_aload_n hx hb dL_law_1529 rfl (lv_at hl 1 rfl) ?_
  refine lv_aload_n hx hb dL_law_1530 rfl (lv_at hl 3 rfl) ?_
  refine lv_iload_n hx hb dL_law_1531 rfl (lv_at hl 0 rfl) ?_
  refine lv_iconst (v := 1) hx hb dL_law_1532 (by decide) ?_
  refine lv_iadd hx hb dL_law_1533 ?_
  refine lv_topi (fun x_5 ex_5 => ?_)
  obtain rfl : x_5 = 1 := ex_5.trans (by decide +kernel)
  refine va_sld hx hb hX hbl hbA hS (xin 1 6 rfl (by decide) (by decide)) dL_law_1534 ?_
  refine W.eq (g2 := F0 m 1535 ls [.int (xs 1), .ref (q 200), .int (-1)]) rfl ?_
  refine lv_aload_n hx hb dL_law_1535 rfl (lv_at hl 3 rfl) ?_
  refine lv_iload_n hx hb dL_law_1536 rfl (lv_at hl 0 rfl) ?_
  refine lv_iconst (v := 2) hx hb dL_law_1537 (by decide) ?_
  refine lv_iadd hx hb dL_law_1538 ?_
  refine lv_topi (fun x_6 ex_6 => ?_)
  obtain rfl : x_6 = 2 := ex_6.trans (by decide +kernel)
  refine va_sld hx hb hX hbl hbA hS (xin 2 6 rfl (by decide) (by decide)) dL_law_1539 ?_
  refine W.eq (g2 := F0 m 1540 ls [.int (xs 2), .int (xs 1), .ref (q 200), .int (-1)]) rfl ?_
  refine lv_aload_n hx hb dL_law_1540 rfl (lv_at hl 3 rfl) ?_
  refine lv_iload_n hx hb dL_law_1541 rfl (lv_at hl 0 rfl) ?_
  refine lv_iconst (v := 3) hx hb dL_law_1542 (by decide) ?_
  refine lv_iadd hx hb dL_law_1543 ?_
  refine lv_topi (fun x_7 ex_7 => ?_)
  obtain rfl : x_7 = 3 := ex_7.trans (by decide +kernel)
  refine va_sld hx hb hX hbl hbA hS (xin 3 6 rfl (by decide) (by decide)) dL_law_1544 ?_
  refine W.eq (g2 := F0 m 1545 ls [.int (xs 3), .int (xs 2), .int (xs 1), .ref (q 200), .int (-1)]) rfl ?_
  refine CWV (As := [.int (xs 1), .int (xs 2), .int (xs 3)]) (rest := [.int (-1)]) (wc := [((q 200), .inr (12, [.ref (q 201), .ref (q 202), .int 0, .long 0, .long 1, .ref (q 203), .ref (q 204), .ref (q 205), .ref (q 206), .ref (q 207), .int 0, .int 0, .int 0, .int 0, .int 0, .int 0, .int (-1), .int (-1), .int 0, .int 0, .int 0, .ref (q 208), .int 0, .int 0, .ref (q 209), .ref (q 210), .ref (q 211), .ref (q 212), .ref (q 213), .int 0, .int 0, .ref (q 214), .ref (q 215), .ref (q 216), .int 0, .int 0])), ((q 201), .inl (k 1, 5340, .inl at0))]) (wr := []) hx hb hml hown hts hKK hP hD hS hA (r_early l D k q (xs 1) (xs 2) (xs 3)) ci_X12_early qm_L_153 ⟨Nat.le_of_ble_eq_true rfl, Nat.le_of_ble_eq_true rfl⟩ ⟨Nat.le_of_ble_eq_true rfl, Nat.le_of_ble_eq_true rfl⟩ [0, 1] [] rfl rfl rfl rfl rfl (by decide) 0 rfl rfl rfl hl.1 rfl (Nat.le_of_ble_eq_true rfl) dL_law_1545 (fun u_8 H locs hφ hP hD hS => ?_)
  have hP : va_P D vwCl [] H := hP
  have hD : va_D A [] := hD
  refine W.eq (g2 := F0 m 1548 ls [.int (-1), .int (-1)]) rfl ?_
  refine lv_icmp_eq (tgt := 2849) hx hb dL_law_1548 (by decide) (fun _ => ?_) (fun c => absurd (by decide) c)
  exact law_done hx hb hr hlocks hX hbl hbA hAf hS (by decide) (by decide) hl
set_option maxHeartbeats 4000000 in
set_option maxRecDepth 100000 in
theorem law_c32 {p : Program} {e : Env} {s : State} {m : MethodId} {below : List Frame} {meth : Method} {c : Code} (l : Launch) {b : Nat} {xs : Nat → Int32} {A : Nat → Prop} {D : va_G} {k : Nat → ClassId} {q : Nat → Nat} {H : Heap} {locs : List Loc} {ls : Array Slot} (C : LC p s m meth c b xs A D k q H locs ls) : W p l e room_1 s m #[Value.ref b] below meth c H locs 123 16705 (lw_Z below #[Value.ref b] s) (F0 m 1553 ls []) := by
  obtain ⟨hx, hb, hr, hml, hown, hts, hKK, hX, hbl, hbA, hA, hAf, hlocks, hP, hD, hS, hl⟩ := C
  refine lv_aload_n hx hb dL_law_1553 rfl (lv_at hl 2 rfl) ?_
  refine lv_aload_n hx hb dL_law_1554 rfl (lv_at hl 3 rfl) ?_
  refine lv_iload_n hx hb dL_law_1555 rfl (lv_at hl 0 rfl) ?_
  refine lv_iconst (v := 1) hx hb dL_law_1556 (by decide) ?_
  refine lv_iadd hx hb dL_law_1557 ?_
  refine lv_topi (fun x_1 ex_1 => ?_)
  obtain rfl : x_1 = 1 := ex_1.trans (by decide +kernel)
  refine va_sld hx hb hX hbl hbA hS (xin 1 6 rfl (by decide) (by decide)) dL_law_1558 ?_
  refine W.eq (g2 := F0 m 1559 ls [.int (xs 1), .ref (q 0)]) rfl ?_
  refine lv_aload_n hx hb dL_law_1559 rfl (lv_at hl 3 rfl) ?_
  refine lv_iload_n hx hb dL_law_1560 rfl (lv_at hl 0 rfl) ?_
  refine lv_iconst (v := 2) hx hb dL_law_1561 (by decide) ?_
  refine lv_iadd hx hb dL_law_1562 ?_
  refine lv_topi (fun x_2 ex_2 => ?_)
  obtain rfl : x_2 = 2 := ex_2.trans (by decide +kernel)
  refine va_sld hx hb hX hbl hbA hS (xin 2 6 rfl (by decide) (by decide)) dL_law_1563 ?_
  refine W.eq (g2 := F0 m 1564 ls [.int (xs 2), .int (xs 1), .ref (q 0)]) rfl ?_
  refine CWV (As := [.int (xs 1), .int (xs 2)]) (rest := []) (wc := [((q 0), .inr (11, [.ref (q 1), .ref (q 2), .ref (q 3), .ref (q 4), .ref (q 5), .ref (q 6), .ref (q 7), .ref (q 8), .ref (q 9), .ref (q 10), .ref (q 11), .int 0, .int 0, .int 0, .long 0, .long 1])), ((q 2), .inr (8, [.ref (q 20), .ref (q 21), .ref (q 22)])), ((q 20), .inr (5, [.ref (q 23), .ref (q 24), .ref (q 25), .int 0, .int 0, .int 0, .int 0])), ((q 21), .inr (0, [.ref (q 26), .ref (q 27), .ref (q 28), .ref (q 29), .int 0, .int 0]))]) (wr := [((q 200), .inr (12, [.ref (q 201), .ref (q 202), .int 0, .long 0, .long 1, .ref (q 203), .ref (q 204), .ref (q 205), .ref (q 206), .ref (q 207), .int 0, .int 0, .int 0, .int 0, .int 0, .int 0, .int (-1), .int (-1), .int 0, .int 0, .int 0, .ref (q 208), .int 0, .int 0, .ref (q 209), .ref (q 210), .ref (q 211), .ref (q 212), .ref (q 213), .int 0, .int 0, .ref (q 214), .ref (q 215), .ref (q 216), .int 0, .int 0])), ((q 201), .inl (k 1, 5340, .inl at0))]) hx hb hml hown hts hKK hP hD hS hA (p_latest l D k q (xs 1) (xs 2)) ci_X11_latest qm_L_154 ⟨Nat.le_of_ble_eq_true rfl, Nat.le_of_ble_eq_true rfl⟩ ⟨Nat.le_of_ble_eq_true rfl, Nat.le_of_ble_eq_true rfl⟩ [0, 11, 12, 16] [66, 67] rfl rfl rfl rfl rfl (by decide) 0 rfl rfl rfl hl.1 rfl (Nat.le_of_ble_eq_true rfl) dL_law_1564 (fun u_3 H locs hφ hP hD hS => ?_)
  have hP : va_P D vwCl [((q 200), .inr (12, [.ref (q 201), .ref (q 202), .int 0, .long 0, .long 1, .ref (q 203), .ref (q 204), .ref (q 205), .ref (q 206), .ref (q 207), .int 0, .int 0, .int 0, .int 0, .int 0, .int 0, .int (-1), .int (-1), .int 0, .int 0, .int 0, .ref (q 208), .int 0, .int 0, .ref (q 209), .ref (q 210), .ref (q 211), .ref (q 212), .ref (q 213), .int 0, .int 0, .ref (q 214), .ref (q 215), .ref (q 216), .int 0, .int 0])), ((q 201), .inl (k 1, 5340, .inl at0))] H := hP
  have hD : va_D A [((q 200), .inr (12, [.ref (q 201), .ref (q 202), .int 0, .long 0, .long 1, .ref (q 203), .ref (q 204), .ref (q 205), .ref (q 206), .ref (q 207), .int 0, .int 0, .int 0, .int 0, .int 0, .int 0, .int (-1), .int (-1), .int 0, .int 0, .int 0, .ref (q 208), .int 0, .int 0, .ref (q 209), .ref (q 210), .ref (q 211), .ref (q 212), .ref (q 213), .int 0, .int 0, .ref (q 214), .ref (q 215), .ref (q 216), .int 0, .int 0])), ((q 201), .inl (k 1, 5340, .inl at0))] := hD
  refine W.eq (g2 := F0 m 1567 ls [.int (-1)]) rfl ?_
  refine lv_aload_n hx hb dL_law_1567 rfl (lv_at hl 1 rfl) ?_
  refine lv_aload_n hx hb dL_law_1568 rfl (lv_at hl 3 rfl) ?_
  refine lv_iload_n hx hb dL_law_1569 rfl (lv_at hl 0 rfl) ?_
  refine lv_iconst (v := 1) hx hb dL_law_1570 (by decide) ?_
  refine lv_iadd hx hb dL_law_1571 ?_
  refine lv_topi (fun x_4 ex_4 => ?_)
  obtain rfl : x_4 = 1 := ex_4.trans (by decide +kernel)
  refine va_sld hx hb hX hbl hbA hS (xin 1 6 rfl (by decide) (by decide)) dL_law_1572 ?_
  refine W.eq (g2 := F0 m 1573 ls [.int (xs 1), .ref (q 200), .int (-1)]) rfl ?_
  refine lv_aload_n hx hb dL_law_1573 rfl (lv_at hl 3 rfl) ?_
  refine lv_iload_n hx hb dL_law_1574 rfl (lv_at hl 0 rfl) ?_
  refine lv_iconst (v := 2) hx hb dL_law_1575 (by decide) ?_
  refine lv_iadd hx hb dL_law_1576 ?_
  refine lv_topi (fun x_5 ex_5 => ?_)
  obtain rfl : x_5 = 2 := ex_5.trans (by decide +kernel)
  refine va_sld hx hb hX hbl hbA hS (xin 2 6 rfl (by decide) (by decide)) dL_law_1577 ?_
  refine W.eq (g2 := F0 m 1578 ls [.int (xs 2), .int (xs 1), .ref (q 200), .int (-1)]) rfl ?_
  refine CWV (As := [.int (xs 1), .int (xs 2)]) (rest := [.int (-1)]) (wc := [((q 200), .inr (12, [.ref (q 201), .ref (q 202), .int 0, .long 0, .long 1, .ref (q 203), .ref (q 204), .ref (q 205), .ref (q 206), .ref (q 207), .int 0, .int 0, .int 0, .int 0, .int 0, .int 0, .int (-1), .int (-1), .int 0, .int 0, .int 0, .ref (q 208), .int 0, .int 0, .ref (q 209), .ref (q 210), .ref (q 211), .ref (q 212), .ref (q 213), .int 0, .int 0, .ref (q 214), .ref (q 215), .ref (q 216), .int 0, .int 0])), ((q 201), .inl (k 1, 5340, .inl at0))]) (wr := []) hx hb hml hown hts hKK hP hD hS hA (r_latest l D k q (xs 1) (xs 2)) ci_X12_latest qm_L_157 ⟨Nat.le_of_ble_eq_true rfl, Nat.le_of_ble_eq_true rfl⟩ ⟨Nat.le_of_ble_eq_true rfl, Nat.le_of_ble_eq_true rfl⟩ [0, 1] [] rfl rfl rfl rfl rfl (by decide) 0 rfl rfl rfl hl.1 rfl (Nat.le_of_ble_eq_true rfl) dL_law_1578 (fun u_6 H locs hφ hP hD hS => ?_)
  have hP : va_P D vwCl [] H := hP
  have hD : va_D A [] := hD
  refine W.eq (g2 := F0 m 1581 ls [.int (-1), .int (-1)]) rfl ?_
  refine lv_icmp_eq (tgt := 2849) hx hb dL_law_1581 (by decide) (fun _ => ?_) (fun c => absurd (by decide) c)
  exact law_done hx hb hr hlocks hX hbl hbA hAf hS (by decide) (by decide) hl
set_option maxHeartbeats 4000000 in
set_option maxRecDepth 100000 in
theorem law_c33 {p : Program} {e : Env} {s : State} {m : MethodId} {below : List Frame} {meth : Method} {c : Code} (l : Launch) {b : Nat} {xs : Nat → Int32} {A : Nat → Prop} {D : va_G} {k : Nat → ClassId} {q : Nat → Nat} {H : Heap} {locs : List Loc} {ls : Array Slot} (C : LC p s m meth c b xs A D k q H locs ls) : W p l e room_1 s m #[Value.ref b] below meth c H locs 123 16705 (lw_Z below #[Value.ref b] s) (F0 m 1586 ls []) := by
  obtain ⟨hx, hb, hr, hml, hown, hts, hKK, hX, hbl, hbA, hA, hAf, hlocks, hP, hD, hS, hl⟩ := C
  refine lv_aload_n hx hb dL_law_1586 rfl (lv_at hl 2 rfl) ?_
  refine lv_aload_n hx hb dL_law_1587 rfl (lv_at hl 3 rfl) ?_
  refine lv_iload_n hx hb dL_law_1588 rfl (lv_at hl 0 rfl) ?_
  refine lv_iconst (v := 1) hx hb dL_law_1589 (by decide) ?_
  refine lv_iadd hx hb dL_law_1590 ?_
  refine lv_topi (fun x_1 ex_1 => ?_)
  obtain rfl : x_1 = 1 := ex_1.trans (by decide +kernel)
  refine va_sld hx hb hX hbl hbA hS (xin 1 6 rfl (by decide) (by decide)) dL_law_1591 ?_
  refine W.eq (g2 := F0 m 1592 ls [.int (xs 1), .ref (q 0)]) rfl ?_
  refine CWV (As := [.int (xs 1)]) (rest := []) (wc := [((q 0), .inr (11, [.ref (q 1), .ref (q 2), .ref (q 3), .ref (q 4), .ref (q 5), .ref (q 6), .ref (q 7), .ref (q 8), .ref (q 9), .ref (q 10), .ref (q 11), .int 0, .int 0, .int 0, .long 0, .long 1])), ((q 2), .inr (8, [.ref (q 20), .ref (q 21), .ref (q 22)])), ((q 20), .inr (5, [.ref (q 23), .ref (q 24), .ref (q 25), .int 0, .int 0, .int 0, .int 0])), ((q 21), .inr (0, [.ref (q 26), .ref (q 27), .ref (q 28), .ref (q 29), .int 0, .int 0]))]) (wr := [((q 200), .inr (12, [.ref (q 201), .ref (q 202), .int 0, .long 0, .long 1, .ref (q 203), .ref (q 204), .ref (q 205), .ref (q 206), .ref (q 207), .int 0, .int 0, .int 0, .int 0, .int 0, .int 0, .int (-1), .int (-1), .int 0, .int 0, .int 0, .ref (q 208), .int 0, .int 0, .ref (q 209), .ref (q 210), .ref (q 211), .ref (q 212), .ref (q 213), .int 0, .int 0, .ref (q 214), .ref (q 215), .ref (q 216), .int 0, .int 0])), ((q 201), .inl (k 1, 5340, .inl at0))]) hx hb hml hown hts hKK hP hD hS hA (p_centre l D k q (xs 1)) ci_X11_centre qm_L_158 ⟨Nat.le_of_ble_eq_true rfl, Nat.le_of_ble_eq_true rfl⟩ ⟨Nat.le_of_ble_eq_true rfl, Nat.le_of_ble_eq_true rfl⟩ [0, 11, 12, 16] [66, 67] rfl rfl rfl rfl rfl (by decide) 0 rfl rfl rfl hl.1 rfl (Nat.le_of_ble_eq_true rfl) dL_law_1592 (fun u_2 H locs hφ hP hD hS => ?_)
  have hP : va_P D vwCl [((q 200), .inr (12, [.ref (q 201), .ref (q 202), .int 0, .long 0, .long 1, .ref (q 203), .ref (q 204), .ref (q 205), .ref (q 206), .ref (q 207), .int 0, .int 0, .int 0, .int 0, .int 0, .int 0, .int (-1), .int (-1), .int 0, .int 0, .int 0, .ref (q 208), .int 0, .int 0, .ref (q 209), .ref (q 210), .ref (q 211), .ref (q 212), .ref (q 213), .int 0, .int 0, .ref (q 214), .ref (q 215), .ref (q 216), .int 0, .int 0])), ((q 201), .inl (k 1, 5340, .inl at0))] H := hP
  have hD : va_D A [((q 200), .inr (12, [.ref (q 201), .ref (q 202), .int 0, .long 0, .long 1, .ref (q 203), .ref (q 204), .ref (q 205), .ref (q 206), .ref (q 207), .int 0, .int 0, .int 0, .int 0, .int 0, .int 0, .int (-1), .int (-1), .int 0, .int 0, .int 0, .ref (q 208), .int 0, .int 0, .ref (q 209), .ref (q 210), .ref (q 211), .ref (q 212), .ref (q 213), .int 0, .int 0, .ref (q 214), .ref (q 215), .ref (q 216), .int 0, .int 0])), ((q 201), .inl (k 1, 5340, .inl at0))] := hD
  refine W.eq (g2 := F0 m 1595 ls [.int (-1)]) rfl ?_
  refine lv_aload_n hx hb dL_law_1595 rfl (lv_at hl 1 rfl) ?_
  refine lv_aload_n hx hb dL_law_1596 rfl (lv_at hl 3 rfl) ?_
  refine lv_iload_n hx hb dL_law_1597 rfl (lv_at hl 0 rfl) ?_
  refine lv_iconst (v := 1) hx hb dL_law_1598 (by decide) ?_
  refine lv_iadd hx hb dL_law_1599 ?_
  refine lv_topi (fun x_3 ex_3 => ?_)
  obtain rfl : x_3 = 1 := ex_3.trans (by decide +kernel)
  refine va_sld hx hb hX hbl hbA hS (xin 1 6 rfl (by decide) (by decide)) dL_law_1600 ?_
  refine W.eq (g2 := F0 m 1601 ls [.int (xs 1), .ref (q 200), .int (-1)]) rfl ?_
  refine CWV (As := [.int (xs 1)]) (rest := [.int (-1)]) (wc := [((q 200), .inr (12, [.ref (q 201), .ref (q 202), .int 0, .long 0, .long 1, .ref (q 203), .ref (q 204), .ref (q 205), .ref (q 206), .ref (q 207), .int 0, .int 0, .int 0, .int 0, .int 0, .int 0, .int (-1), .int (-1), .int 0, .int 0, .int 0, .ref (q 208), .int 0, .int 0, .ref (q 209), .ref (q 210), .ref (q 211), .ref (q 212), .ref (q 213), .int 0, .int 0, .ref (q 214), .ref (q 215), .ref (q 216), .int 0, .int 0])), ((q 201), .inl (k 1, 5340, .inl at0))]) (wr := []) hx hb hml hown hts hKK hP hD hS hA (r_centre l D k q (xs 1)) ci_X12_centre qm_L_161 ⟨Nat.le_of_ble_eq_true rfl, Nat.le_of_ble_eq_true rfl⟩ ⟨Nat.le_of_ble_eq_true rfl, Nat.le_of_ble_eq_true rfl⟩ [0, 1] [] rfl rfl rfl rfl rfl (by decide) 0 rfl rfl rfl hl.1 rfl (Nat.le_of_ble_eq_true rfl) dL_law_1601 (fun u_4 H locs hφ hP hD hS => ?_)
  have hP : va_P D vwCl [] H := hP
  have hD : va_D A [] := hD
  refine W.eq (g2 := F0 m 1604 ls [.int (-1), .int (-1)]) rfl ?_
  refine lv_icmp_eq (tgt := 2849) hx hb dL_law_1604 (by decide) (fun _ => ?_) (fun c => absurd (by decide) c)
  exact law_done hx hb hr hlocks hX hbl hbA hAf hS (by decide) (by decide) hl
set_option maxHeartbeats 4000000 in
set_option maxRecDepth 100000 in
theorem law_c34 {p : Program} {e : Env} {s : State} {m : MethodId} {below : List Frame} {meth : Method} {c : Code} (l : Launch) {b : Nat} {xs : Nat → Int32} {A : Nat → Prop} {D : va_G} {k : Nat → ClassId} {q : Nat → Nat} {H : Heap} {locs : List Loc} {ls : Array Slot} (C : LC p s m meth c b xs A D k q H locs ls) : W p l e room_1 s m #[Value.ref b] below meth c H locs 123 16705 (lw_Z below #[Value.ref b] s) (F0 m 1609 ls []) := by
  obtain ⟨hx, hb, hr, hml, hown, hts, hKK, hX, hbl, hbA, hA, hAf, hlocks, hP, hD, hS, hl⟩ := C
  refine lv_aload_n hx hb dL_law_1609 rfl (lv_at hl 2 rfl) ?_
  refine lv_aload_n hx hb dL_law_1610 rfl (lv_at hl 3 rfl) ?_
  refine lv_iload_n hx hb dL_law_1611 rfl (lv_at hl 0 rfl) ?_
  refine lv_iconst (v := 1) hx hb dL_law_1612 (by decide) ?_
  refine lv_iadd hx hb dL_law_1613 ?_
  refine lv_topi (fun x_1 ex_1 => ?_)
  obtain rfl : x_1 = 1 := ex_1.trans (by decide +kernel)
  refine va_sld hx hb hX hbl hbA hS (xin 1 6 rfl (by decide) (by decide)) dL_law_1614 ?_
  refine W.eq (g2 := F0 m 1615 ls [.int (xs 1), .ref (q 0)]) rfl ?_
  refine lv_aload_n hx hb dL_law_1615 rfl (lv_at hl 3 rfl) ?_
  refine lv_iload_n hx hb dL_law_1616 rfl (lv_at hl 0 rfl) ?_
  refine lv_iconst (v := 2) hx hb dL_law_1617 (by decide) ?_
  refine lv_iadd hx hb dL_law_1618 ?_
  refine lv_topi (fun x_2 ex_2 => ?_)
  obtain rfl : x_2 = 2 := ex_2.trans (by decide +kernel)
  refine va_sld hx hb hX hbl hbA hS (xin 2 6 rfl (by decide) (by decide)) dL_law_1619 ?_
  refine W.eq (g2 := F0 m 1620 ls [.int (xs 2), .int (xs 1), .ref (q 0)]) rfl ?_
  refine CWV (As := [.int (xs 1), .int (xs 2)]) (rest := []) (wc := [((q 0), .inr (11, [.ref (q 1), .ref (q 2), .ref (q 3), .ref (q 4), .ref (q 5), .ref (q 6), .ref (q 7), .ref (q 8), .ref (q 9), .ref (q 10), .ref (q 11), .int 0, .int 0, .int 0, .long 0, .long 1])), ((q 2), .inr (8, [.ref (q 20), .ref (q 21), .ref (q 22)])), ((q 20), .inr (5, [.ref (q 23), .ref (q 24), .ref (q 25), .int 0, .int 0, .int 0, .int 0])), ((q 21), .inr (0, [.ref (q 26), .ref (q 27), .ref (q 28), .ref (q 29), .int 0, .int 0]))]) (wr := [((q 200), .inr (12, [.ref (q 201), .ref (q 202), .int 0, .long 0, .long 1, .ref (q 203), .ref (q 204), .ref (q 205), .ref (q 206), .ref (q 207), .int 0, .int 0, .int 0, .int 0, .int 0, .int 0, .int (-1), .int (-1), .int 0, .int 0, .int 0, .ref (q 208), .int 0, .int 0, .ref (q 209), .ref (q 210), .ref (q 211), .ref (q 212), .ref (q 213), .int 0, .int 0, .ref (q 214), .ref (q 215), .ref (q 216), .int 0, .int 0])), ((q 201), .inl (k 1, 5340, .inl at0))]) hx hb hml hown hts hKK hP hD hS hA (p_cutOff l D k q (xs 1) (xs 2)) ci_X11_cutOff qm_L_162 ⟨Nat.le_of_ble_eq_true rfl, Nat.le_of_ble_eq_true rfl⟩ ⟨Nat.le_of_ble_eq_true rfl, Nat.le_of_ble_eq_true rfl⟩ [0, 11, 12, 16] [66, 67] rfl rfl rfl rfl rfl (by decide) 0 rfl rfl rfl hl.1 rfl (Nat.le_of_ble_eq_true rfl) dL_law_1620 (fun u_3 H locs hφ hP hD hS => ?_)
  have hP : va_P D vwCl [((q 200), .inr (12, [.ref (q 201), .ref (q 202), .int 0, .long 0, .long 1, .ref (q 203), .ref (q 204), .ref (q 205), .ref (q 206), .ref (q 207), .int 0, .int 0, .int 0, .int 0, .int 0, .int 0, .int (-1), .int (-1), .int 0, .int 0, .int 0, .ref (q 208), .int 0, .int 0, .ref (q 209), .ref (q 210), .ref (q 211), .ref (q 212), .ref (q 213), .int 0, .int 0, .ref (q 214), .ref (q 215), .ref (q 216), .int 0, .int 0])), ((q 201), .inl (k 1, 5340, .inl at0))] H := hP
  have hD : va_D A [((q 200), .inr (12, [.ref (q 201), .ref (q 202), .int 0, .long 0, .long 1, .ref (q 203), .ref (q 204), .ref (q 205), .ref (q 206), .ref (q 207), .int 0, .int 0, .int 0, .int 0, .int 0, .int 0, .int (-1), .int (-1), .int 0, .int 0, .int 0, .ref (q 208), .int 0, .int 0, .ref (q 209), .ref (q 210), .ref (q 211), .ref (q 212), .ref (q 213), .int 0, .int 0, .ref (q 214), .ref (q 215), .ref (q 216), .int 0, .int 0])), ((q 201), .inl (k 1, 5340, .inl at0))] := hD
  refine W.eq (g2 := F0 m 1623 ls [.int (-1)]) rfl ?_
  refine lv_aload_n hx hb dL_law_1623 rfl (lv_at hl 1 rfl) ?_
  refine lv_aload_n hx hb dL_law_1624 rfl (lv_at hl 3 rfl) ?_
  refine lv_iload_n hx hb dL_law_1625 rfl (lv_at hl 0 rfl) ?_
  refine lv_iconst (v := 1) hx hb dL_law_1626 (by decide) ?_
  refine lv_iadd hx hb dL_law_1627 ?_
  refine lv_topi (fun x_4 ex_4 => ?_)
  obtain rfl : x_4 = 1 := ex_4.trans (by decide +kernel)
  refine va_sld hx hb hX hbl hbA hS (xin 1 6 rfl (by decide) (by decide)) dL_law_1628 ?_
  refine W.eq (g2 := F0 m 1629 ls [.int (xs 1), .ref (q 200), .int (-1)]) rfl ?_
  refine lv_aload_n hx hb dL_law_1629 rfl (lv_at hl 3 rfl) ?_
  refine lv_iload_n hx hb dL_law_1630 rfl (lv_at hl 0 rfl) ?_
  refine lv_iconst (v := 2) hx hb dL_law_1631 (by decide) ?_
  refine lv_iadd hx hb dL_law_1632 ?_
  refine lv_topi (fun x_5 ex_5 => ?_)
  obtain rfl : x_5 = 2 := ex_5.trans (by decide +kernel)
  refine va_sld hx hb hX hbl hbA hS (xin 2 6 rfl (by decide) (by decide)) dL_law_1633 ?_
  refine W.eq (g2 := F0 m 1634 ls [.int (xs 2), .int (xs 1), .ref (q 200), .int (-1)]) rfl ?_
  refine CWV (As := [.int (xs 1), .int (xs 2)]) (rest := [.int (-1)]) (wc := [((q 200), .inr (12, [.ref (q 201), .ref (q 202), .int 0, .long 0, .long 1, .ref (q 203), .ref (q 204), .ref (q 205), .ref (q 206), .ref (q 207), .int 0, .int 0, .int 0, .int 0, .int 0, .int 0, .int (-1), .int (-1), .int 0, .int 0, .int 0, .ref (q 208), .int 0, .int 0, .ref (q 209), .ref (q 210), .ref (q 211), .ref (q 212), .ref (q 213), .int 0, .int 0, .ref (q 214), .ref (q 215), .ref (q 216), .int 0, .int 0])), ((q 201), .inl (k 1, 5340, .inl at0))]) (wr := []) hx hb hml hown hts hKK hP hD hS hA (r_cutOff l D k q (xs 1) (xs 2)) ci_X12_cutOff qm_L_165 ⟨Nat.le_of_ble_eq_true rfl, Nat.le_of_ble_eq_true rfl⟩ ⟨Nat.le_of_ble_eq_true rfl, Nat.le_of_ble_eq_true rfl⟩ [0, 1] [] rfl rfl rfl rfl rfl (by decide) 0 rfl rfl rfl hl.1 rfl (Nat.le_of_ble_eq_true rfl) dL_law_1634 (fun u_6 H locs hφ hP hD hS => ?_)
  have hP : va_P D vwCl [] H := hP
  have hD : va_D A [] := hD
  refine W.eq (g2 := F0 m 1637 ls [.int (-1), .int (-1)]) rfl ?_
  refine lv_icmp_eq (tgt := 2849) hx hb dL_law_1637 (by decide) (fun _ => ?_) (fun c => absurd (by decide) c)
  exact law_done hx hb hr hlocks hX hbl hbA hAf hS (by decide) (by decide) hl
set_option maxHeartbeats 4000000 in
set_option maxRecDepth 100000 in
theorem law_c35 {p : Program} {e : Env} {s : State} {m : MethodId} {below : List Frame} {meth : Method} {c : Code} (l : Launch) {b : Nat} {xs : Nat → Int32} {A : Nat → Prop} {D : va_G} {k : Nat → ClassId} {q : Nat → Nat} {H : Heap} {locs : List Loc} {ls : Array Slot} (C : LC p s m meth c b xs A D k q H locs ls) : W p l e room_1 s m #[Value.ref b] below meth c H locs 123 16705 (lw_Z below #[Value.ref b] s) (F0 m 1642 ls []) := by
  obtain ⟨hx, hb, hr, hml, hown, hts, hKK, hX, hbl, hbA, hA, hAf, hlocks, hP, hD, hS, hl⟩ := C
  refine lv_aload_n hx hb dL_law_1642 rfl (lv_at hl 2 rfl) ?_
  refine lv_aload_n hx hb dL_law_1643 rfl (lv_at hl 3 rfl) ?_
  refine lv_iload_n hx hb dL_law_1644 rfl (lv_at hl 0 rfl) ?_
  refine lv_iconst (v := 1) hx hb dL_law_1645 (by decide) ?_
  refine lv_iadd hx hb dL_law_1646 ?_
  refine lv_topi (fun x_1 ex_1 => ?_)
  obtain rfl : x_1 = 1 := ex_1.trans (by decide +kernel)
  refine va_sld hx hb hX hbl hbA hS (xin 1 6 rfl (by decide) (by decide)) dL_law_1647 ?_
  refine W.eq (g2 := F0 m 1648 ls [.int (xs 1), .ref (q 0)]) rfl ?_
  refine lv_aload_n hx hb dL_law_1648 rfl (lv_at hl 3 rfl) ?_
  refine lv_iload_n hx hb dL_law_1649 rfl (lv_at hl 0 rfl) ?_
  refine lv_iconst (v := 2) hx hb dL_law_1650 (by decide) ?_
  refine lv_iadd hx hb dL_law_1651 ?_
  refine lv_topi (fun x_2 ex_2 => ?_)
  obtain rfl : x_2 = 2 := ex_2.trans (by decide +kernel)
  refine va_sld hx hb hX hbl hbA hS (xin 2 6 rfl (by decide) (by decide)) dL_law_1652 ?_
  refine W.eq (g2 := F0 m 1653 ls [.int (xs 2), .int (xs 1), .ref (q 0)]) rfl ?_
  refine CWV (As := [.int (xs 1), .int (xs 2)]) (rest := []) (wc := [((q 0), .inr (11, [.ref (q 1), .ref (q 2), .ref (q 3), .ref (q 4), .ref (q 5), .ref (q 6), .ref (q 7), .ref (q 8), .ref (q 9), .ref (q 10), .ref (q 11), .int 0, .int 0, .int 0, .long 0, .long 1])), ((q 2), .inr (8, [.ref (q 20), .ref (q 21), .ref (q 22)])), ((q 20), .inr (5, [.ref (q 23), .ref (q 24), .ref (q 25), .int 0, .int 0, .int 0, .int 0])), ((q 21), .inr (0, [.ref (q 26), .ref (q 27), .ref (q 28), .ref (q 29), .int 0, .int 0]))]) (wr := [((q 200), .inr (12, [.ref (q 201), .ref (q 202), .int 0, .long 0, .long 1, .ref (q 203), .ref (q 204), .ref (q 205), .ref (q 206), .ref (q 207), .int 0, .int 0, .int 0, .int 0, .int 0, .int 0, .int (-1), .int (-1), .int 0, .int 0, .int 0, .ref (q 208), .int 0, .int 0, .ref (q 209), .ref (q 210), .ref (q 211), .ref (q 212), .ref (q 213), .int 0, .int 0, .ref (q 214), .ref (q 215), .ref (q 216), .int 0, .int 0])), ((q 201), .inl (k 1, 5340, .inl at0))]) hx hb hml hown hts hKK hP hD hS hA (p_hearsBack l D k q (xs 1) (xs 2)) ci_X11_hearsBack qm_L_166 ⟨Nat.le_of_ble_eq_true rfl, Nat.le_of_ble_eq_true rfl⟩ ⟨Nat.le_of_ble_eq_true rfl, Nat.le_of_ble_eq_true rfl⟩ [0, 11, 12, 16] [66, 67] rfl rfl rfl rfl rfl (by decide) 0 rfl rfl rfl hl.1 rfl (Nat.le_of_ble_eq_true rfl) dL_law_1653 (fun u_3 H locs hφ hP hD hS => ?_)
  have hP : va_P D vwCl [((q 200), .inr (12, [.ref (q 201), .ref (q 202), .int 0, .long 0, .long 1, .ref (q 203), .ref (q 204), .ref (q 205), .ref (q 206), .ref (q 207), .int 0, .int 0, .int 0, .int 0, .int 0, .int 0, .int (-1), .int (-1), .int 0, .int 0, .int 0, .ref (q 208), .int 0, .int 0, .ref (q 209), .ref (q 210), .ref (q 211), .ref (q 212), .ref (q 213), .int 0, .int 0, .ref (q 214), .ref (q 215), .ref (q 216), .int 0, .int 0])), ((q 201), .inl (k 1, 5340, .inl at0))] H := hP
  have hD : va_D A [((q 200), .inr (12, [.ref (q 201), .ref (q 202), .int 0, .long 0, .long 1, .ref (q 203), .ref (q 204), .ref (q 205), .ref (q 206), .ref (q 207), .int 0, .int 0, .int 0, .int 0, .int 0, .int 0, .int (-1), .int (-1), .int 0, .int 0, .int 0, .ref (q 208), .int 0, .int 0, .ref (q 209), .ref (q 210), .ref (q 211), .ref (q 212), .ref (q 213), .int 0, .int 0, .ref (q 214), .ref (q 215), .ref (q 216), .int 0, .int 0])), ((q 201), .inl (k 1, 5340, .inl at0))] := hD
  refine W.eq (g2 := F0 m 1656 ls [.int (-1)]) rfl ?_
  refine lv_aload_n hx hb dL_law_1656 rfl (lv_at hl 1 rfl) ?_
  refine lv_aload_n hx hb dL_law_1657 rfl (lv_at hl 3 rfl) ?_
  refine lv_iload_n hx hb dL_law_1658 rfl (lv_at hl 0 rfl) ?_
  refine lv_iconst (v := 1) hx hb dL_law_1659 (by decide) ?_
  refine lv_iadd hx hb dL_law_1660 ?_
  refine lv_topi (fun x_4 ex_4 => ?_)
  obtain rfl : x_4 = 1 := ex_4.trans (by decide +kernel)
  refine va_sld hx hb hX hbl hbA hS (xin 1 6 rfl (by decide) (by decide)) dL_law_1661 ?_
  refine W.eq (g2 := F0 m 1662 ls [.int (xs 1), .ref (q 200), .int (-1)]) rfl ?_
  refine lv_aload_n hx hb dL_law_1662 rfl (lv_at hl 3 rfl) ?_
  refine lv_iload_n hx hb dL_law_1663 rfl (lv_at hl 0 rfl) ?_
  refine lv_iconst (v := 2) hx hb dL_law_1664 (by decide) ?_
  refine lv_iadd hx hb dL_law_1665 ?_
  refine lv_topi (fun x_5 ex_5 => ?_)
  obtain rfl : x_5 = 2 := ex_5.trans (by decide +kernel)
  refine va_sld hx hb hX hbl hbA hS (xin 2 6 rfl (by decide) (by decide)) dL_law_1666 ?_
  refine W.eq (g2 := F0 m 1667 ls [.int (xs 2), .int (xs 1), .ref (q 200), .int (-1)]) rfl ?_
  refine CWV (As := [.int (xs 1), .int (xs 2)]) (rest := [.int (-1)]) (wc := [((q 200), .inr (12, [.ref (q 201), .ref (q 202), .int 0, .long 0, .long 1, .ref (q 203), .ref (q 204), .ref (q 205), .ref (q 206), .ref (q 207), .int 0, .int 0, .int 0, .int 0, .int 0, .int 0, .int (-1), .int (-1), .int 0, .int 0, .int 0, .ref (q 208), .int 0, .int 0, .ref (q 209), .ref (q 210), .ref (q 211), .ref (q 212), .ref (q 213), .int 0, .int 0, .ref (q 214), .ref (q 215), .ref (q 216), .int 0, .int 0])), ((q 201), .inl (k 1, 5340, .inl at0))]) (wr := []) hx hb hml hown hts hKK hP hD hS hA (r_hearsBack l D k q (xs 1) (xs 2)) ci_X12_hearsBack qm_L_169 ⟨Nat.le_of_ble_eq_true rfl, Nat.le_of_ble_eq_true rfl⟩ ⟨Nat.le_of_ble_eq_true rfl, Nat.le_of_ble_eq_true rfl⟩ [0, 1] [] rfl rfl rfl rfl rfl (by decide) 0 rfl rfl rfl hl.1 rfl (Nat.le_of_ble_eq_true rfl) dL_law_1667 (fun u_6 H locs hφ hP hD hS => ?_)
  have hP : va_P D vwCl [] H := hP
  have hD : va_D A [] := hD
  refine W.eq (g2 := F0 m 1670 ls [.int (-1), .int (-1)]) rfl ?_
  refine lv_icmp_eq (tgt := 2849) hx hb dL_law_1670 (by decide) (fun _ => ?_) (fun c => absurd (by decide) c)
  exact law_done hx hb hr hlocks hX hbl hbA hAf hS (by decide) (by decide) hl
set_option maxHeartbeats 4000000 in
set_option maxRecDepth 100000 in
theorem law_c36 {p : Program} {e : Env} {s : State} {m : MethodId} {below : List Frame} {meth : Method} {c : Code} (l : Launch) {b : Nat} {xs : Nat → Int32} {A : Nat → Prop} {D : va_G} {k : Nat → ClassId} {q : Nat → Nat} {H : Heap} {locs : List Loc} {ls : Array Slot} (C : LC p s m meth c b xs A D k q H locs ls) : W p l e room_1 s m #[Value.ref b] below meth c H locs 123 16705 (lw_Z below #[Value.ref b] s) (F0 m 1675 ls []) := by
  obtain ⟨hx, hb, hr, hml, hown, hts, hKK, hX, hbl, hbA, hA, hAf, hlocks, hP, hD, hS, hl⟩ := C
  refine lv_aload_n hx hb dL_law_1675 rfl (lv_at hl 2 rfl) ?_
  refine lv_aload_n hx hb dL_law_1676 rfl (lv_at hl 3 rfl) ?_
  refine lv_iload_n hx hb dL_law_1677 rfl (lv_at hl 0 rfl) ?_
  refine lv_iconst (v := 1) hx hb dL_law_1678 (by decide) ?_
  refine lv_iadd hx hb dL_law_1679 ?_
  refine lv_topi (fun x_1 ex_1 => ?_)
  obtain rfl : x_1 = 1 := ex_1.trans (by decide +kernel)
  refine va_sld hx hb hX hbl hbA hS (xin 1 6 rfl (by decide) (by decide)) dL_law_1680 ?_
  refine W.eq (g2 := F0 m 1681 ls [.int (xs 1), .ref (q 0)]) rfl ?_
  refine CWV (As := [.int (xs 1)]) (rest := []) (wc := [((q 0), .inr (11, [.ref (q 1), .ref (q 2), .ref (q 3), .ref (q 4), .ref (q 5), .ref (q 6), .ref (q 7), .ref (q 8), .ref (q 9), .ref (q 10), .ref (q 11), .int 0, .int 0, .int 0, .long 0, .long 1])), ((q 2), .inr (8, [.ref (q 20), .ref (q 21), .ref (q 22)])), ((q 20), .inr (5, [.ref (q 23), .ref (q 24), .ref (q 25), .int 0, .int 0, .int 0, .int 0])), ((q 21), .inr (0, [.ref (q 26), .ref (q 27), .ref (q 28), .ref (q 29), .int 0, .int 0]))]) (wr := [((q 200), .inr (12, [.ref (q 201), .ref (q 202), .int 0, .long 0, .long 1, .ref (q 203), .ref (q 204), .ref (q 205), .ref (q 206), .ref (q 207), .int 0, .int 0, .int 0, .int 0, .int 0, .int 0, .int (-1), .int (-1), .int 0, .int 0, .int 0, .ref (q 208), .int 0, .int 0, .ref (q 209), .ref (q 210), .ref (q 211), .ref (q 212), .ref (q 213), .int 0, .int 0, .ref (q 214), .ref (q 215), .ref (q 216), .int 0, .int 0])), ((q 201), .inl (k 1, 5340, .inl at0))]) hx hb hml hown hts hKK hP hD hS hA (p_remote l D k q (xs 1)) ci_X11_remote qm_L_170 ⟨Nat.le_of_ble_eq_true rfl, Nat.le_of_ble_eq_true rfl⟩ ⟨Nat.le_of_ble_eq_true rfl, Nat.le_of_ble_eq_true rfl⟩ [0, 11, 12, 16] [66, 67] rfl rfl rfl rfl rfl (by decide) 0 rfl rfl rfl hl.1 rfl (Nat.le_of_ble_eq_true rfl) dL_law_1681 (fun u_2 H locs hφ hP hD hS => ?_)
  have hP : va_P D vwCl [((q 200), .inr (12, [.ref (q 201), .ref (q 202), .int 0, .long 0, .long 1, .ref (q 203), .ref (q 204), .ref (q 205), .ref (q 206), .ref (q 207), .int 0, .int 0, .int 0, .int 0, .int 0, .int 0, .int (-1), .int (-1), .int 0, .int 0, .int 0, .ref (q 208), .int 0, .int 0, .ref (q 209), .ref (q 210), .ref (q 211), .ref (q 212), .ref (q 213), .int 0, .int 0, .ref (q 214), .ref (q 215), .ref (q 216), .int 0, .int 0])), ((q 201), .inl (k 1, 5340, .inl at0))] H := hP
  have hD : va_D A [((q 200), .inr (12, [.ref (q 201), .ref (q 202), .int 0, .long 0, .long 1, .ref (q 203), .ref (q 204), .ref (q 205), .ref (q 206), .ref (q 207), .int 0, .int 0, .int 0, .int 0, .int 0, .int 0, .int (-1), .int (-1), .int 0, .int 0, .int 0, .ref (q 208), .int 0, .int 0, .ref (q 209), .ref (q 210), .ref (q 211), .ref (q 212), .ref (q 213), .int 0, .int 0, .ref (q 214), .ref (q 215), .ref (q 216), .int 0, .int 0])), ((q 201), .inl (k 1, 5340, .inl at0))] := hD
  refine W.eq (g2 := F0 m 1684 ls [.int (-1)]) rfl ?_
  refine lv_aload_n hx hb dL_law_1684 rfl (lv_at hl 1 rfl) ?_
  refine lv_aload_n hx hb dL_law_1685 rfl (lv_at hl 3 rfl) ?_
  refine lv_iload_n hx hb dL_law_1686 rfl (lv_at hl 0 rfl) ?_
  refine lv_iconst (v := 1) hx hb dL_law_1687 (by decide) ?_
  refine lv_iadd hx hb dL_law_1688 ?_
  refine lv_topi (fun x_3 ex_3 => ?_)
  obtain rfl : x_3 = 1 := ex_3.trans (by decide +kernel)
  refine va_sld hx hb hX hbl hbA hS (xin 1 6 rfl (by decide) (by decide)) dL_law_1689 ?_
  refine W.eq (g2 := F0 m 1690 ls [.int (xs 1), .ref (q 200), .int (-1)]) rfl ?_
  refine CWV (As := [.int (xs 1)]) (rest := [.int (-1)]) (wc := [((q 200), .inr (12, [.ref (q 201), .ref (q 202), .int 0, .long 0, .long 1, .ref (q 203), .ref (q 204), .ref (q 205), .ref (q 206), .ref (q 207), .int 0, .int 0, .int 0, .int 0, .int 0, .int 0, .int (-1), .int (-1), .int 0, .int 0, .int 0, .ref (q 208), .int 0, .int 0, .ref (q 209), .ref (q 210), .ref (q 211), .ref (q 212), .ref (q 213), .int 0, .int 0, .ref (q 214), .ref (q 215), .ref (q 216), .int 0, .int 0])), ((q 201), .inl (k 1, 5340, .inl at0))]) (wr := []) hx hb hml hown hts hKK hP hD hS hA (r_remote l D k q (xs 1)) ci_X12_remote qm_L_173 ⟨Nat.le_of_ble_eq_true rfl, Nat.le_of_ble_eq_true rfl⟩ ⟨Nat.le_of_ble_eq_true rfl, Nat.le_of_ble_eq_true rfl⟩ [0, 1] [] rfl rfl rfl rfl rfl (by decide) 0 rfl rfl rfl hl.1 rfl (Nat.le_of_ble_eq_true rfl) dL_law_1690 (fun u_4 H locs hφ hP hD hS => ?_)
  have hP : va_P D vwCl [] H := hP
  have hD : va_D A [] := hD
  refine W.eq (g2 := F0 m 1693 ls [.int (-1), .int (-1)]) rfl ?_
  refine lv_icmp_eq (tgt := 2849) hx hb dL_law_1693 (by decide) (fun _ => ?_) (fun c => absurd (by decide) c)
  exact law_done hx hb hr hlocks hX hbl hbA hAf hS (by decide) (by decide) hl
set_option maxHeartbeats 4000000 in
set_option maxRecDepth 100000 in
theorem law_c37 {p : Program} {e : Env} {s : State} {m : MethodId} {below : List Frame} {meth : Method} {c : Code} (l : Launch) {b : Nat} {xs : Nat → Int32} {A : Nat → Prop} {D : va_G} {k : Nat → ClassId} {q : Nat → Nat} {H : Heap} {locs : List Loc} {ls : Array Slot} (C : LC p s m meth c b xs A D k q H locs ls) : W p l e room_1 s m #[Value.ref b] below meth c H locs 123 16705 (lw_Z below #[Value.ref b] s) (F0 m 1698 ls []) := by
  obtain ⟨hx, hb, hr, hml, hown, hts, hKK, hX, hbl, hbA, hA, hAf, hlocks, hP, hD, hS, hl⟩ := C
  refine lv_aload_n hx hb dL_law_1698 rfl (lv_at hl 2 rfl) ?_
  refine lv_aload_n hx hb dL_law_1699 rfl (lv_at hl 3 rfl) ?_
  refine lv_iload_n hx hb dL_law_1700 rfl (lv_at hl 0 rfl) ?_
  refine lv_iconst (v := 1) hx hb dL_law_1701 (by decide) ?_
  refine lv_iadd hx hb dL_law_1702 ?_
  refine lv_topi (fun x_1 ex_1 => ?_)
  obtain rfl : x_1 = 1 := ex_1.trans (by decide +kernel)
  refine va_sld hx hb hX hbl hbA hS (xin 1 6 rfl (by decide) (by decide)) dL_law_1703 ?_
  refine W.eq (g2 := F0 m 1704 ls [.int (xs 1), .ref (q 0)]) rfl ?_
  refine CWV (As := [.int (xs 1)]) (rest := []) (wc := [((q 0), .inr (11, [.ref (q 1), .ref (q 2), .ref (q 3), .ref (q 4), .ref (q 5), .ref (q 6), .ref (q 7), .ref (q 8), .ref (q 9), .ref (q 10), .ref (q 11), .int 0, .int 0, .int 0, .long 0, .long 1])), ((q 2), .inr (8, [.ref (q 20), .ref (q 21), .ref (q 22)])), ((q 20), .inr (5, [.ref (q 23), .ref (q 24), .ref (q 25), .int 0, .int 0, .int 0, .int 0])), ((q 21), .inr (0, [.ref (q 26), .ref (q 27), .ref (q 28), .ref (q 29), .int 0, .int 0]))]) (wr := [((q 200), .inr (12, [.ref (q 201), .ref (q 202), .int 0, .long 0, .long 1, .ref (q 203), .ref (q 204), .ref (q 205), .ref (q 206), .ref (q 207), .int 0, .int 0, .int 0, .int 0, .int 0, .int 0, .int (-1), .int (-1), .int 0, .int 0, .int 0, .ref (q 208), .int 0, .int 0, .ref (q 209), .ref (q 210), .ref (q 211), .ref (q 212), .ref (q 213), .int 0, .int 0, .ref (q 214), .ref (q 215), .ref (q 216), .int 0, .int 0])), ((q 201), .inl (k 1, 5340, .inl at0))]) hx hb hml hown hts hKK hP hD hS hA (p_order l D k q (xs 1)) ci_X11_order qm_L_174 ⟨Nat.le_of_ble_eq_true rfl, Nat.le_of_ble_eq_true rfl⟩ ⟨Nat.le_of_ble_eq_true rfl, Nat.le_of_ble_eq_true rfl⟩ [0, 11, 12, 16] [66, 67] rfl rfl rfl rfl rfl (by decide) 0 rfl rfl rfl hl.1 rfl (Nat.le_of_ble_eq_true rfl) dL_law_1704 (fun u_2 H locs hφ hP hD hS => ?_)
  have hP : va_P D vwCl [((q 200), .inr (12, [.ref (q 201), .ref (q 202), .int 0, .long 0, .long 1, .ref (q 203), .ref (q 204), .ref (q 205), .ref (q 206), .ref (q 207), .int 0, .int 0, .int 0, .int 0, .int 0, .int 0, .int (-1), .int (-1), .int 0, .int 0, .int 0, .ref (q 208), .int 0, .int 0, .ref (q 209), .ref (q 210), .ref (q 211), .ref (q 212), .ref (q 213), .int 0, .int 0, .ref (q 214), .ref (q 215), .ref (q 216), .int 0, .int 0])), ((q 201), .inl (k 1, 5340, .inl at0))] H := hP
  have hD : va_D A [((q 200), .inr (12, [.ref (q 201), .ref (q 202), .int 0, .long 0, .long 1, .ref (q 203), .ref (q 204), .ref (q 205), .ref (q 206), .ref (q 207), .int 0, .int 0, .int 0, .int 0, .int 0, .int 0, .int (-1), .int (-1), .int 0, .int 0, .int 0, .ref (q 208), .int 0, .int 0, .ref (q 209), .ref (q 210), .ref (q 211), .ref (q 212), .ref (q 213), .int 0, .int 0, .ref (q 214), .ref (q 215), .ref (q 216), .int 0, .int 0])), ((q 201), .inl (k 1, 5340, .inl at0))] := hD
  refine W.eq (g2 := F0 m 1707 ls [.int (-1)]) rfl ?_
  refine lv_aload_n hx hb dL_law_1707 rfl (lv_at hl 1 rfl) ?_
  refine lv_aload_n hx hb dL_law_1708 rfl (lv_at hl 3 rfl) ?_
  refine lv_iload_n hx hb dL_law_1709 rfl (lv_at hl 0 rfl) ?_
  refine lv_iconst (v := 1) hx hb dL_law_1710 (by decide) ?_
  refine lv_iadd hx hb dL_law_1711 ?_
  refine lv_topi (fun x_3 ex_3 => ?_)
  obtain rfl : x_3 = 1 := ex_3.trans (by decide +kernel)
  refine va_sld hx hb hX hbl hbA hS (xin 1 6 rfl (by decide) (by decide)) dL_law_1712 ?_
  refine W.eq (g2 := F0 m 1713 ls [.int (xs 1), .ref (q 200), .int (-1)]) rfl ?_
  refine CWV (As := [.int (xs 1)]) (rest := [.int (-1)]) (wc := [((q 200), .inr (12, [.ref (q 201), .ref (q 202), .int 0, .long 0, .long 1, .ref (q 203), .ref (q 204), .ref (q 205), .ref (q 206), .ref (q 207), .int 0, .int 0, .int 0, .int 0, .int 0, .int 0, .int (-1), .int (-1), .int 0, .int 0, .int 0, .ref (q 208), .int 0, .int 0, .ref (q 209), .ref (q 210), .ref (q 211), .ref (q 212), .ref (q 213), .int 0, .int 0, .ref (q 214), .ref (q 215), .ref (q 216), .int 0, .int 0])), ((q 201), .inl (k 1, 5340, .inl at0))]) (wr := []) hx hb hml hown hts hKK hP hD hS hA (r_order l D k q (xs 1)) ci_X12_order qm_L_177 ⟨Nat.le_of_ble_eq_true rfl, Nat.le_of_ble_eq_true rfl⟩ ⟨Nat.le_of_ble_eq_true rfl, Nat.le_of_ble_eq_true rfl⟩ [0, 1] [] rfl rfl rfl rfl rfl (by decide) 0 rfl rfl rfl hl.1 rfl (Nat.le_of_ble_eq_true rfl) dL_law_1713 (fun u_4 H locs hφ hP hD hS => ?_)
  have hP : va_P D vwCl [] H := hP
  have hD : va_D A [] := hD
  refine W.eq (g2 := F0 m 1716 ls [.int (-1), .int (-1)]) rfl ?_
  refine lv_icmp_eq (tgt := 2849) hx hb dL_law_1716 (by decide) (fun _ => ?_) (fun c => absurd (by decide) c)
  exact law_done hx hb hr hlocks hX hbl hbA hAf hS (by decide) (by decide) hl
set_option maxHeartbeats 4000000 in
set_option maxRecDepth 100000 in
theorem law_c38 {p : Program} {e : Env} {s : State} {m : MethodId} {below : List Frame} {meth : Method} {c : Code} (l : Launch) {b : Nat} {xs : Nat → Int32} {A : Nat → Prop} {D : va_G} {k : Nat → ClassId} {q : Nat → Nat} {H : Heap} {locs : List Loc} {ls : Array Slot} (C : LC p s m meth c b xs A D k q H locs ls) : W p l e room_1 s m #[Value.ref b] below meth c H locs 123 16705 (lw_Z below #[Value.ref b] s) (F0 m 1721 ls []) := by
  obtain ⟨hx, hb, hr, hml, hown, hts, hKK, hX, hbl, hbA, hA, hAf, hlocks, hP, hD, hS, hl⟩ := C
  refine lv_aload_n hx hb dL_law_1721 rfl (lv_at hl 2 rfl) ?_
  refine lv_aload_n hx hb dL_law_1722 rfl (lv_at hl 3 rfl) ?_
  refine lv_iload_n hx hb dL_law_1723 rfl (lv_at hl 0 rfl) ?_
  refine lv_iconst (v := 1) hx hb dL_law_1724 (by decide) ?_
  refine lv_iadd hx hb dL_law_1725 ?_
  refine lv_topi (fun x_1 ex_1 => ?_)
  obtain rfl : x_1 = 1 := ex_1.trans (by decide +kernel)
  refine va_sld hx hb hX hbl hbA hS (xin 1 6 rfl (by decide) (by decide)) dL_law_1726 ?_
  refine W.eq (g2 := F0 m 1727 ls [.int (xs 1), .ref (q 0)]) rfl ?_
  refine lv_aload_n hx hb dL_law_1727 rfl (lv_at hl 3 rfl) ?_
  refine lv_iload_n hx hb dL_law_1728 rfl (lv_at hl 0 rfl) ?_
  refine lv_iconst (v := 2) hx hb dL_law_1729 (by decide) ?_
  refine lv_iadd hx hb dL_law_1730 ?_
  refine lv_topi (fun x_2 ex_2 => ?_)
  obtain rfl : x_2 = 2 := ex_2.trans (by decide +kernel)
  refine va_sld hx hb hX hbl hbA hS (xin 2 6 rfl (by decide) (by decide)) dL_law_1731 ?_
  refine W.eq (g2 := F0 m 1732 ls [.int (xs 2), .int (xs 1), .ref (q 0)]) rfl ?_
  refine CWV (As := [.int (xs 1), .int (xs 2)]) (rest := []) (wc := [((q 0), .inr (11, [.ref (q 1), .ref (q 2), .ref (q 3), .ref (q 4), .ref (q 5), .ref (q 6), .ref (q 7), .ref (q 8), .ref (q 9), .ref (q 10), .ref (q 11), .int 0, .int 0, .int 0, .long 0, .long 1])), ((q 2), .inr (8, [.ref (q 20), .ref (q 21), .ref (q 22)])), ((q 20), .inr (5, [.ref (q 23), .ref (q 24), .ref (q 25), .int 0, .int 0, .int 0, .int 0])), ((q 21), .inr (0, [.ref (q 26), .ref (q 27), .ref (q 28), .ref (q 29), .int 0, .int 0]))]) (wr := [((q 200), .inr (12, [.ref (q 201), .ref (q 202), .int 0, .long 0, .long 1, .ref (q 203), .ref (q 204), .ref (q 205), .ref (q 206), .ref (q 207), .int 0, .int 0, .int 0, .int 0, .int 0, .int 0, .int (-1), .int (-1), .int 0, .int 0, .int 0, .ref (q 208), .int 0, .int 0, .ref (q 209), .ref (q 210), .ref (q 211), .ref (q 212), .ref (q 213), .int 0, .int 0, .ref (q 214), .ref (q 215), .ref (q 216), .int 0, .int 0])), ((q 201), .inl (k 1, 5340, .inl at0))]) hx hb hml hown hts hKK hP hD hS hA (p_given l D k q (xs 1) (xs 2)) ci_X11_given qm_L_178 ⟨Nat.le_of_ble_eq_true rfl, Nat.le_of_ble_eq_true rfl⟩ ⟨Nat.le_of_ble_eq_true rfl, Nat.le_of_ble_eq_true rfl⟩ [0, 11, 12, 16] [66, 67] rfl rfl rfl rfl rfl (by decide) 0 rfl rfl rfl hl.1 rfl (Nat.le_of_ble_eq_true rfl) dL_law_1732 (fun u_3 H locs hφ hP hD hS => ?_)
  have hP : va_P D vwCl [((q 200), .inr (12, [.ref (q 201), .ref (q 202), .int 0, .long 0, .long 1, .ref (q 203), .ref (q 204), .ref (q 205), .ref (q 206), .ref (q 207), .int 0, .int 0, .int 0, .int 0, .int 0, .int 0, .int (-1), .int (-1), .int 0, .int 0, .int 0, .ref (q 208), .int 0, .int 0, .ref (q 209), .ref (q 210), .ref (q 211), .ref (q 212), .ref (q 213), .int 0, .int 0, .ref (q 214), .ref (q 215), .ref (q 216), .int 0, .int 0])), ((q 201), .inl (k 1, 5340, .inl at0))] H := hP
  have hD : va_D A [((q 200), .inr (12, [.ref (q 201), .ref (q 202), .int 0, .long 0, .long 1, .ref (q 203), .ref (q 204), .ref (q 205), .ref (q 206), .ref (q 207), .int 0, .int 0, .int 0, .int 0, .int 0, .int 0, .int (-1), .int (-1), .int 0, .int 0, .int 0, .ref (q 208), .int 0, .int 0, .ref (q 209), .ref (q 210), .ref (q 211), .ref (q 212), .ref (q 213), .int 0, .int 0, .ref (q 214), .ref (q 215), .ref (q 216), .int 0, .int 0])), ((q 201), .inl (k 1, 5340, .inl at0))] := hD
  refine W.eq (g2 := F0 m 1735 ls [.int (-1)]) rfl ?_
  refine lv_aload_n hx hb dL_law_1735 rfl (lv_at hl 1 rfl) ?_
  refine lv_aload_n hx hb dL_law_1736 rfl (lv_at hl 3 rfl) ?_
  refine lv_iload_n hx hb dL_law_1737 rfl (lv_at hl 0 rfl) ?_
  refine lv_iconst (v := 1) hx hb dL_law_1738 (by decide) ?_
  refine lv_iadd hx hb dL_law_1739 ?_
  refine lv_topi (fun x_4 ex_4 => ?_)
  obtain rfl : x_4 = 1 := ex_4.trans (by decide +kernel)
  refine va_sld hx hb hX hbl hbA hS (xin 1 6 rfl (by decide) (by decide)) dL_law_1740 ?_
  refine W.eq (g2 := F0 m 1741 ls [.int (xs 1), .ref (q 200), .int (-1)]) rfl ?_
  refine lv_aload_n hx hb dL_law_1741 rfl (lv_at hl 3 rfl) ?_
  refine lv_iload_n hx hb dL_law_1742 rfl (lv_at hl 0 rfl) ?_
  refine lv_iconst (v := 2) hx hb dL_law_1743 (by decide) ?_
  refine lv_iadd hx hb dL_law_1744 ?_
  refine lv_topi (fun x_5 ex_5 => ?_)
  obtain rfl : x_5 = 2 := ex_5.trans (by decide +kernel)
  refine va_sld hx hb hX hbl hbA hS (xin 2 6 rfl (by decide) (by decide)) dL_law_1745 ?_
  refine W.eq (g2 := F0 m 1746 ls [.int (xs 2), .int (xs 1), .ref (q 200), .int (-1)]) rfl ?_
  refine CWV (As := [.int (xs 1), .int (xs 2)]) (rest := [.int (-1)]) (wc := [((q 200), .inr (12, [.ref (q 201), .ref (q 202), .int 0, .long 0, .long 1, .ref (q 203), .ref (q 204), .ref (q 205), .ref (q 206), .ref (q 207), .int 0, .int 0, .int 0, .int 0, .int 0, .int 0, .int (-1), .int (-1), .int 0, .int 0, .int 0, .ref (q 208), .int 0, .int 0, .ref (q 209), .ref (q 210), .ref (q 211), .ref (q 212), .ref (q 213), .int 0, .int 0, .ref (q 214), .ref (q 215), .ref (q 216), .int 0, .int 0])), ((q 201), .inl (k 1, 5340, .inl at0))]) (wr := []) hx hb hml hown hts hKK hP hD hS hA (r_given l D k q (xs 1) (xs 2)) ci_X12_given qm_L_181 ⟨Nat.le_of_ble_eq_true rfl, Nat.le_of_ble_eq_true rfl⟩ ⟨Nat.le_of_ble_eq_true rfl, Nat.le_of_ble_eq_true rfl⟩ [0, 1] [] rfl rfl rfl rfl rfl (by decide) 0 rfl rfl rfl hl.1 rfl (Nat.le_of_ble_eq_true rfl) dL_law_1746 (fun u_6 H locs hφ hP hD hS => ?_)
  have hP : va_P D vwCl [] H := hP
  have hD : va_D A [] := hD
  refine W.eq (g2 := F0 m 1749 ls [.int (-1), .int (-1)]) rfl ?_
  refine lv_icmp_eq (tgt := 2849) hx hb dL_law_1749 (by decide) (fun _ => ?_) (fun c => absurd (by decide) c)
  exact law_done hx hb hr hlocks hX hbl hbA hAf hS (by decide) (by decide) hl
set_option maxHeartbeats 4000000 in
set_option maxRecDepth 100000 in
theorem law_c39 {p : Program} {e : Env} {s : State} {m : MethodId} {below : List Frame} {meth : Method} {c : Code} (l : Launch) {b : Nat} {xs : Nat → Int32} {A : Nat → Prop} {D : va_G} {k : Nat → ClassId} {q : Nat → Nat} {H : Heap} {locs : List Loc} {ls : Array Slot} (C : LC p s m meth c b xs A D k q H locs ls) : W p l e room_1 s m #[Value.ref b] below meth c H locs 123 16705 (lw_Z below #[Value.ref b] s) (F0 m 1754 ls []) := by
  obtain ⟨hx, hb, hr, hml, hown, hts, hKK, hX, hbl, hbA, hA, hAf, hlocks, hP, hD, hS, hl⟩ := C
  refine lv_aload_n hx hb dL_law_1754 rfl (lv_at hl 2 rfl) ?_
  refine lv_aload_n hx hb dL_law_1755 rfl (lv_at hl 3 rfl) ?_
  refine lv_iload_n hx hb dL_law_1756 rfl (lv_at hl 0 rfl) ?_
  refine lv_iconst (v := 1) hx hb dL_law_1757 (by decide) ?_
  refine lv_iadd hx hb dL_law_1758 ?_
  refine lv_topi (fun x_1 ex_1 => ?_)
  obtain rfl : x_1 = 1 := ex_1.trans (by decide +kernel)
  refine va_sld hx hb hX hbl hbA hS (xin 1 6 rfl (by decide) (by decide)) dL_law_1759 ?_
  refine W.eq (g2 := F0 m 1760 ls [.int (xs 1), .ref (q 0)]) rfl ?_
  refine lv_aload_n hx hb dL_law_1760 rfl (lv_at hl 3 rfl) ?_
  refine lv_iload_n hx hb dL_law_1761 rfl (lv_at hl 0 rfl) ?_
  refine lv_iconst (v := 2) hx hb dL_law_1762 (by decide) ?_
  refine lv_iadd hx hb dL_law_1763 ?_
  refine lv_topi (fun x_2 ex_2 => ?_)
  obtain rfl : x_2 = 2 := ex_2.trans (by decide +kernel)
  refine va_sld hx hb hX hbl hbA hS (xin 2 6 rfl (by decide) (by decide)) dL_law_1764 ?_
  refine W.eq (g2 := F0 m 1765 ls [.int (xs 2), .int (xs 1), .ref (q 0)]) rfl ?_
  refine CWV (As := [.int (xs 1), .int (xs 2)]) (rest := []) (wc := [((q 0), .inr (11, [.ref (q 1), .ref (q 2), .ref (q 3), .ref (q 4), .ref (q 5), .ref (q 6), .ref (q 7), .ref (q 8), .ref (q 9), .ref (q 10), .ref (q 11), .int 0, .int 0, .int 0, .long 0, .long 1])), ((q 2), .inr (8, [.ref (q 20), .ref (q 21), .ref (q 22)])), ((q 20), .inr (5, [.ref (q 23), .ref (q 24), .ref (q 25), .int 0, .int 0, .int 0, .int 0])), ((q 21), .inr (0, [.ref (q 26), .ref (q 27), .ref (q 28), .ref (q 29), .int 0, .int 0]))]) (wr := [((q 200), .inr (12, [.ref (q 201), .ref (q 202), .int 0, .long 0, .long 1, .ref (q 203), .ref (q 204), .ref (q 205), .ref (q 206), .ref (q 207), .int 0, .int 0, .int 0, .int 0, .int 0, .int 0, .int (-1), .int (-1), .int 0, .int 0, .int 0, .ref (q 208), .int 0, .int 0, .ref (q 209), .ref (q 210), .ref (q 211), .ref (q 212), .ref (q 213), .int 0, .int 0, .ref (q 214), .ref (q 215), .ref (q 216), .int 0, .int 0])), ((q 201), .inl (k 1, 5340, .inl at0))]) hx hb hml hown hts hKK hP hD hS hA (p_heard l D k q (xs 1) (xs 2)) ci_X11_heard qm_L_182 ⟨Nat.le_of_ble_eq_true rfl, Nat.le_of_ble_eq_true rfl⟩ ⟨Nat.le_of_ble_eq_true rfl, Nat.le_of_ble_eq_true rfl⟩ [0, 11, 12, 16] [66, 67] rfl rfl rfl rfl rfl (by decide) 0 rfl rfl rfl hl.1 rfl (Nat.le_of_ble_eq_true rfl) dL_law_1765 (fun u_3 H locs hφ hP hD hS => ?_)
  have hP : va_P D vwCl [((q 200), .inr (12, [.ref (q 201), .ref (q 202), .int 0, .long 0, .long 1, .ref (q 203), .ref (q 204), .ref (q 205), .ref (q 206), .ref (q 207), .int 0, .int 0, .int 0, .int 0, .int 0, .int 0, .int (-1), .int (-1), .int 0, .int 0, .int 0, .ref (q 208), .int 0, .int 0, .ref (q 209), .ref (q 210), .ref (q 211), .ref (q 212), .ref (q 213), .int 0, .int 0, .ref (q 214), .ref (q 215), .ref (q 216), .int 0, .int 0])), ((q 201), .inl (k 1, 5340, .inl at0))] H := hP
  have hD : va_D A [((q 200), .inr (12, [.ref (q 201), .ref (q 202), .int 0, .long 0, .long 1, .ref (q 203), .ref (q 204), .ref (q 205), .ref (q 206), .ref (q 207), .int 0, .int 0, .int 0, .int 0, .int 0, .int 0, .int (-1), .int (-1), .int 0, .int 0, .int 0, .ref (q 208), .int 0, .int 0, .ref (q 209), .ref (q 210), .ref (q 211), .ref (q 212), .ref (q 213), .int 0, .int 0, .ref (q 214), .ref (q 215), .ref (q 216), .int 0, .int 0])), ((q 201), .inl (k 1, 5340, .inl at0))] := hD
  refine W.eq (g2 := F0 m 1768 ls [.int (-1)]) rfl ?_
  refine lv_aload_n hx hb dL_law_1768 rfl (lv_at hl 1 rfl) ?_
  refine lv_aload_n hx hb dL_law_1769 rfl (lv_at hl 3 rfl) ?_
  refine lv_iload_n hx hb dL_law_1770 rfl (lv_at hl 0 rfl) ?_
  refine lv_iconst (v := 1) hx hb dL_law_1771 (by decide) ?_
  refine lv_iadd hx hb dL_law_1772 ?_
  refine lv_topi (fun x_4 ex_4 => ?_)
  obtain rfl : x_4 = 1 := ex_4.trans (by decide +kernel)
  refine va_sld hx hb hX hbl hbA hS (xin 1 6 rfl (by decide) (by decide)) dL_law_1773 ?_
  refine W.eq (g2 := F0 m 1774 ls [.int (xs 1), .ref (q 200), .int (-1)]) rfl ?_
  refine lv_aload_n hx hb dL_law_1774 rfl (lv_at hl 3 rfl) ?_
  refine lv_iload_n hx hb dL_law_1775 rfl (lv_at hl 0 rfl) ?_
  refine lv_iconst (v := 2) hx hb dL_law_1776 (by decide) ?_
  refine lv_iadd hx hb dL_law_1777 ?_
  refine lv_topi (fun x_5 ex_5 => ?_)
  obtain rfl : x_5 = 2 := ex_5.trans (by decide +kernel)
  refine va_sld hx hb hX hbl hbA hS (xin 2 6 rfl (by decide) (by decide)) dL_law_1778 ?_
  refine W.eq (g2 := F0 m 1779 ls [.int (xs 2), .int (xs 1), .ref (q 200), .int (-1)]) rfl ?_
  refine CWV (As := [.int (xs 1), .int (xs 2)]) (rest := [.int (-1)]) (wc := [((q 200), .inr (12, [.ref (q 201), .ref (q 202), .int 0, .long 0, .long 1, .ref (q 203), .ref (q 204), .ref (q 205), .ref (q 206), .ref (q 207), .int 0, .int 0, .int 0, .int 0, .int 0, .int 0, .int (-1), .int (-1), .int 0, .int 0, .int 0, .ref (q 208), .int 0, .int 0, .ref (q 209), .ref (q 210), .ref (q 211), .ref (q 212), .ref (q 213), .int 0, .int 0, .ref (q 214), .ref (q 215), .ref (q 216), .int 0, .int 0])), ((q 201), .inl (k 1, 5340, .inl at0))]) (wr := []) hx hb hml hown hts hKK hP hD hS hA (r_heard l D k q (xs 1) (xs 2)) ci_X12_heard qm_L_185 ⟨Nat.le_of_ble_eq_true rfl, Nat.le_of_ble_eq_true rfl⟩ ⟨Nat.le_of_ble_eq_true rfl, Nat.le_of_ble_eq_true rfl⟩ [0, 1] [] rfl rfl rfl rfl rfl (by decide) 0 rfl rfl rfl hl.1 rfl (Nat.le_of_ble_eq_true rfl) dL_law_1779 (fun u_6 H locs hφ hP hD hS => ?_)
  have hP : va_P D vwCl [] H := hP
  have hD : va_D A [] := hD
  refine W.eq (g2 := F0 m 1782 ls [.int (-1), .int (-1)]) rfl ?_
  refine lv_icmp_eq (tgt := 2849) hx hb dL_law_1782 (by decide) (fun _ => ?_) (fun c => absurd (by decide) c)
  exact law_done hx hb hr hlocks hX hbl hbA hAf hS (by decide) (by decide) hl
set_option maxHeartbeats 4000000 in
set_option maxRecDepth 100000 in
theorem law_c40 {p : Program} {e : Env} {s : State} {m : MethodId} {below : List Frame} {meth : Method} {c : Code} (l : Launch) {b : Nat} {xs : Nat → Int32} {A : Nat → Prop} {D : va_G} {k : Nat → ClassId} {q : Nat → Nat} {H : Heap} {locs : List Loc} {ls : Array Slot} (C : LC p s m meth c b xs A D k q H locs ls) : W p l e room_1 s m #[Value.ref b] below meth c H locs 123 16705 (lw_Z below #[Value.ref b] s) (F0 m 1787 ls []) := by
  obtain ⟨hx, hb, hr, hml, hown, hts, hKK, hX, hbl, hbA, hA, hAf, hlocks, hP, hD, hS, hl⟩ := C
  refine lv_aload_n hx hb dL_law_1787 rfl (lv_at hl 2 rfl) ?_
  refine lv_aload_n hx hb dL_law_1788 rfl (lv_at hl 3 rfl) ?_
  refine lv_iload_n hx hb dL_law_1789 rfl (lv_at hl 0 rfl) ?_
  refine lv_iconst (v := 1) hx hb dL_law_1790 (by decide) ?_
  refine lv_iadd hx hb dL_law_1791 ?_
  refine lv_topi (fun x_1 ex_1 => ?_)
  obtain rfl : x_1 = 1 := ex_1.trans (by decide +kernel)
  refine va_sld hx hb hX hbl hbA hS (xin 1 6 rfl (by decide) (by decide)) dL_law_1792 ?_
  refine W.eq (g2 := F0 m 1793 ls [.int (xs 1), .ref (q 0)]) rfl ?_
  refine lv_aload_n hx hb dL_law_1793 rfl (lv_at hl 3 rfl) ?_
  refine lv_iload_n hx hb dL_law_1794 rfl (lv_at hl 0 rfl) ?_
  refine lv_iconst (v := 2) hx hb dL_law_1795 (by decide) ?_
  refine lv_iadd hx hb dL_law_1796 ?_
  refine lv_topi (fun x_2 ex_2 => ?_)
  obtain rfl : x_2 = 2 := ex_2.trans (by decide +kernel)
  refine va_sld hx hb hX hbl hbA hS (xin 2 6 rfl (by decide) (by decide)) dL_law_1797 ?_
  refine W.eq (g2 := F0 m 1798 ls [.int (xs 2), .int (xs 1), .ref (q 0)]) rfl ?_
  refine CWV (As := [.int (xs 1), .int (xs 2)]) (rest := []) (wc := [((q 0), .inr (11, [.ref (q 1), .ref (q 2), .ref (q 3), .ref (q 4), .ref (q 5), .ref (q 6), .ref (q 7), .ref (q 8), .ref (q 9), .ref (q 10), .ref (q 11), .int 0, .int 0, .int 0, .long 0, .long 1])), ((q 2), .inr (8, [.ref (q 20), .ref (q 21), .ref (q 22)])), ((q 20), .inr (5, [.ref (q 23), .ref (q 24), .ref (q 25), .int 0, .int 0, .int 0, .int 0])), ((q 21), .inr (0, [.ref (q 26), .ref (q 27), .ref (q 28), .ref (q 29), .int 0, .int 0]))]) (wr := [((q 200), .inr (12, [.ref (q 201), .ref (q 202), .int 0, .long 0, .long 1, .ref (q 203), .ref (q 204), .ref (q 205), .ref (q 206), .ref (q 207), .int 0, .int 0, .int 0, .int 0, .int 0, .int 0, .int (-1), .int (-1), .int 0, .int 0, .int 0, .ref (q 208), .int 0, .int 0, .ref (q 209), .ref (q 210), .ref (q 211), .ref (q 212), .ref (q 213), .int 0, .int 0, .ref (q 214), .ref (q 215), .ref (q 216), .int 0, .int 0])), ((q 201), .inl (k 1, 5340, .inl at0))]) hx hb hml hown hts hKK hP hD hS hA (p_rules l D k q (xs 1) (xs 2)) ci_X11_rules qm_L_186 ⟨Nat.le_of_ble_eq_true rfl, Nat.le_of_ble_eq_true rfl⟩ ⟨Nat.le_of_ble_eq_true rfl, Nat.le_of_ble_eq_true rfl⟩ [0, 11, 12, 16] [66, 67] rfl rfl rfl rfl rfl (by decide) 0 rfl rfl rfl hl.1 rfl (Nat.le_of_ble_eq_true rfl) dL_law_1798 (fun u_3 H locs hφ hP hD hS => ?_)
  have hP : va_P D vwCl [((q 200), .inr (12, [.ref (q 201), .ref (q 202), .int 0, .long 0, .long 1, .ref (q 203), .ref (q 204), .ref (q 205), .ref (q 206), .ref (q 207), .int 0, .int 0, .int 0, .int 0, .int 0, .int 0, .int (-1), .int (-1), .int 0, .int 0, .int 0, .ref (q 208), .int 0, .int 0, .ref (q 209), .ref (q 210), .ref (q 211), .ref (q 212), .ref (q 213), .int 0, .int 0, .ref (q 214), .ref (q 215), .ref (q 216), .int 0, .int 0])), ((q 201), .inl (k 1, 5340, .inl at0))] H := hP
  have hD : va_D A [((q 200), .inr (12, [.ref (q 201), .ref (q 202), .int 0, .long 0, .long 1, .ref (q 203), .ref (q 204), .ref (q 205), .ref (q 206), .ref (q 207), .int 0, .int 0, .int 0, .int 0, .int 0, .int 0, .int (-1), .int (-1), .int 0, .int 0, .int 0, .ref (q 208), .int 0, .int 0, .ref (q 209), .ref (q 210), .ref (q 211), .ref (q 212), .ref (q 213), .int 0, .int 0, .ref (q 214), .ref (q 215), .ref (q 216), .int 0, .int 0])), ((q 201), .inl (k 1, 5340, .inl at0))] := hD
  refine W.eq (g2 := F0 m 1801 ls [.int (-1)]) rfl ?_
  refine lv_aload_n hx hb dL_law_1801 rfl (lv_at hl 1 rfl) ?_
  refine lv_aload_n hx hb dL_law_1802 rfl (lv_at hl 3 rfl) ?_
  refine lv_iload_n hx hb dL_law_1803 rfl (lv_at hl 0 rfl) ?_
  refine lv_iconst (v := 1) hx hb dL_law_1804 (by decide) ?_
  refine lv_iadd hx hb dL_law_1805 ?_
  refine lv_topi (fun x_4 ex_4 => ?_)
  obtain rfl : x_4 = 1 := ex_4.trans (by decide +kernel)
  refine va_sld hx hb hX hbl hbA hS (xin 1 6 rfl (by decide) (by decide)) dL_law_1806 ?_
  refine W.eq (g2 := F0 m 1807 ls [.int (xs 1), .ref (q 200), .int (-1)]) rfl ?_
  refine lv_aload_n hx hb dL_law_1807 rfl (lv_at hl 3 rfl) ?_
  refine lv_iload_n hx hb dL_law_1808 rfl (lv_at hl 0 rfl) ?_
  refine lv_iconst (v := 2) hx hb dL_law_1809 (by decide) ?_
  refine lv_iadd hx hb dL_law_1810 ?_
  refine lv_topi (fun x_5 ex_5 => ?_)
  obtain rfl : x_5 = 2 := ex_5.trans (by decide +kernel)
  refine va_sld hx hb hX hbl hbA hS (xin 2 6 rfl (by decide) (by decide)) dL_law_1811 ?_
  refine W.eq (g2 := F0 m 1812 ls [.int (xs 2), .int (xs 1), .ref (q 200), .int (-1)]) rfl ?_
  refine CWV (As := [.int (xs 1), .int (xs 2)]) (rest := [.int (-1)]) (wc := [((q 200), .inr (12, [.ref (q 201), .ref (q 202), .int 0, .long 0, .long 1, .ref (q 203), .ref (q 204), .ref (q 205), .ref (q 206), .ref (q 207), .int 0, .int 0, .int 0, .int 0, .int 0, .int 0, .int (-1), .int (-1), .int 0, .int 0, .int 0, .ref (q 208), .int 0, .int 0, .ref (q 209), .ref (q 210), .ref (q 211), .ref (q 212), .ref (q 213), .int 0, .int 0, .ref (q 214), .ref (q 215), .ref (q 216), .int 0, .int 0])), ((q 201), .inl (k 1, 5340, .inl at0))]) (wr := []) hx hb hml hown hts hKK hP hD hS hA (r_rules l D k q (xs 1) (xs 2)) ci_X12_rules qm_L_189 ⟨Nat.le_of_ble_eq_true rfl, Nat.le_of_ble_eq_true rfl⟩ ⟨Nat.le_of_ble_eq_true rfl, Nat.le_of_ble_eq_true rfl⟩ [0, 1] [] rfl rfl rfl rfl rfl (by decide) 0 rfl rfl rfl hl.1 rfl (Nat.le_of_ble_eq_true rfl) dL_law_1812 (fun u_6 H locs hφ hP hD hS => ?_)
  have hP : va_P D vwCl [] H := hP
  have hD : va_D A [] := hD
  refine W.eq (g2 := F0 m 1815 ls [.int (-1), .int (-1)]) rfl ?_
  refine lv_icmp_eq (tgt := 2849) hx hb dL_law_1815 (by decide) (fun _ => ?_) (fun c => absurd (by decide) c)
  exact law_done hx hb hr hlocks hX hbl hbA hAf hS (by decide) (by decide) hl
set_option maxHeartbeats 4000000 in
set_option maxRecDepth 100000 in
theorem law_c41 {p : Program} {e : Env} {s : State} {m : MethodId} {below : List Frame} {meth : Method} {c : Code} (l : Launch) {b : Nat} {xs : Nat → Int32} {A : Nat → Prop} {D : va_G} {k : Nat → ClassId} {q : Nat → Nat} {H : Heap} {locs : List Loc} {ls : Array Slot} (C : LC p s m meth c b xs A D k q H locs ls) : W p l e room_1 s m #[Value.ref b] below meth c H locs 123 16705 (lw_Z below #[Value.ref b] s) (F0 m 1820 ls []) := by
  obtain ⟨hx, hb, hr, hml, hown, hts, hKK, hX, hbl, hbA, hA, hAf, hlocks, hP, hD, hS, hl⟩ := C
  refine lv_aload_n hx hb dL_law_1820 rfl (lv_at hl 2 rfl) ?_
  refine lv_aload_n hx hb dL_law_1821 rfl (lv_at hl 3 rfl) ?_
  refine lv_iload_n hx hb dL_law_1822 rfl (lv_at hl 0 rfl) ?_
  refine lv_iconst (v := 1) hx hb dL_law_1823 (by decide) ?_
  refine lv_iadd hx hb dL_law_1824 ?_
  refine lv_topi (fun x_1 ex_1 => ?_)
  obtain rfl : x_1 = 1 := ex_1.trans (by decide +kernel)
  refine va_sld hx hb hX hbl hbA hS (xin 1 6 rfl (by decide) (by decide)) dL_law_1825 ?_
  refine W.eq (g2 := F0 m 1826 ls [.int (xs 1), .ref (q 0)]) rfl ?_
  refine lv_aload_n hx hb dL_law_1826 rfl (lv_at hl 3 rfl) ?_
  refine lv_iload_n hx hb dL_law_1827 rfl (lv_at hl 0 rfl) ?_
  refine lv_iconst (v := 2) hx hb dL_law_1828 (by decide) ?_
  refine lv_iadd hx hb dL_law_1829 ?_
  refine lv_topi (fun x_2 ex_2 => ?_)
  obtain rfl : x_2 = 2 := ex_2.trans (by decide +kernel)
  refine va_sld hx hb hX hbl hbA hS (xin 2 6 rfl (by decide) (by decide)) dL_law_1830 ?_
  refine W.eq (g2 := F0 m 1831 ls [.int (xs 2), .int (xs 1), .ref (q 0)]) rfl ?_
  refine CWV (As := [.int (xs 1), .int (xs 2)]) (rest := []) (wc := [((q 0), .inr (11, [.ref (q 1), .ref (q 2), .ref (q 3), .ref (q 4), .ref (q 5), .ref (q 6), .ref (q 7), .ref (q 8), .ref (q 9), .ref (q 10), .ref (q 11), .int 0, .int 0, .int 0, .long 0, .long 1])), ((q 2), .inr (8, [.ref (q 20), .ref (q 21), .ref (q 22)])), ((q 20), .inr (5, [.ref (q 23), .ref (q 24), .ref (q 25), .int 0, .int 0, .int 0, .int 0])), ((q 21), .inr (0, [.ref (q 26), .ref (q 27), .ref (q 28), .ref (q 29), .int 0, .int 0]))]) (wr := [((q 200), .inr (12, [.ref (q 201), .ref (q 202), .int 0, .long 0, .long 1, .ref (q 203), .ref (q 204), .ref (q 205), .ref (q 206), .ref (q 207), .int 0, .int 0, .int 0, .int 0, .int 0, .int 0, .int (-1), .int (-1), .int 0, .int 0, .int 0, .ref (q 208), .int 0, .int 0, .ref (q 209), .ref (q 210), .ref (q 211), .ref (q 212), .ref (q 213), .int 0, .int 0, .ref (q 214), .ref (q 215), .ref (q 216), .int 0, .int 0])), ((q 201), .inl (k 1, 5340, .inl at0))]) hx hb hml hown hts hKK hP hD hS hA (p_ruled l D k q (xs 1) (xs 2)) ci_X11_ruled qm_L_190 ⟨Nat.le_of_ble_eq_true rfl, Nat.le_of_ble_eq_true rfl⟩ ⟨Nat.le_of_ble_eq_true rfl, Nat.le_of_ble_eq_true rfl⟩ [0, 11, 12, 16] [66, 67] rfl rfl rfl rfl rfl (by decide) 0 rfl rfl rfl hl.1 rfl (Nat.le_of_ble_eq_true rfl) dL_law_1831 (fun u_3 H locs hφ hP hD hS => ?_)
  have hP : va_P D vwCl [((q 200), .inr (12, [.ref (q 201), .ref (q 202), .int 0, .long 0, .long 1, .ref (q 203), .ref (q 204), .ref (q 205), .ref (q 206), .ref (q 207), .int 0, .int 0, .int 0, .int 0, .int 0, .int 0, .int (-1), .int (-1), .int 0, .int 0, .int 0, .ref (q 208), .int 0, .int 0, .ref (q 209), .ref (q 210), .ref (q 211), .ref (q 212), .ref (q 213), .int 0, .int 0, .ref (q 214), .ref (q 215), .ref (q 216), .int 0, .int 0])), ((q 201), .inl (k 1, 5340, .inl at0))] H := hP
  have hD : va_D A [((q 200), .inr (12, [.ref (q 201), .ref (q 202), .int 0, .long 0, .long 1, .ref (q 203), .ref (q 204), .ref (q 205), .ref (q 206), .ref (q 207), .int 0, .int 0, .int 0, .int 0, .int 0, .int 0, .int (-1), .int (-1), .int 0, .int 0, .int 0, .ref (q 208), .int 0, .int 0, .ref (q 209), .ref (q 210), .ref (q 211), .ref (q 212), .ref (q 213), .int 0, .int 0, .ref (q 214), .ref (q 215), .ref (q 216), .int 0, .int 0])), ((q 201), .inl (k 1, 5340, .inl at0))] := hD
  refine W.eq (g2 := F0 m 1834 ls [.int (-1)]) rfl ?_
  refine lv_aload_n hx hb dL_law_1834 rfl (lv_at hl 1 rfl) ?_
  refine lv_aload_n hx hb dL_law_1835 rfl (lv_at hl 3 rfl) ?_
  refine lv_iload_n hx hb dL_law_1836 rfl (lv_at hl 0 rfl) ?_
  refine lv_iconst (v := 1) hx hb dL_law_1837 (by decide) ?_
  refine lv_iadd hx hb dL_law_1838 ?_
  refine lv_topi (fun x_4 ex_4 => ?_)
  obtain rfl : x_4 = 1 := ex_4.trans (by decide +kernel)
  refine va_sld hx hb hX hbl hbA hS (xin 1 6 rfl (by decide) (by decide)) dL_law_1839 ?_
  refine W.eq (g2 := F0 m 1840 ls [.int (xs 1), .ref (q 200), .int (-1)]) rfl ?_
  refine lv_aload_n hx hb dL_law_1840 rfl (lv_at hl 3 rfl) ?_
  refine lv_iload_n hx hb dL_law_1841 rfl (lv_at hl 0 rfl) ?_
  refine lv_iconst (v := 2) hx hb dL_law_1842 (by decide) ?_
  refine lv_iadd hx hb dL_law_1843 ?_
  refine lv_topi (fun x_5 ex_5 => ?_)
  obtain rfl : x_5 = 2 := ex_5.trans (by decide +kernel)
  refine va_sld hx hb hX hbl hbA hS (xin 2 6 rfl (by decide) (by decide)) dL_law_1844 ?_
  refine W.eq (g2 := F0 m 1845 ls [.int (xs 2), .int (xs 1), .ref (q 200), .int (-1)]) rfl ?_
  refine CWV (As := [.int (xs 1), .int (xs 2)]) (rest := [.int (-1)]) (wc := [((q 200), .inr (12, [.ref (q 201), .ref (q 202), .int 0, .long 0, .long 1, .ref (q 203), .ref (q 204), .ref (q 205), .ref (q 206), .ref (q 207), .int 0, .int 0, .int 0, .int 0, .int 0, .int 0, .int (-1), .int (-1), .int 0, .int 0, .int 0, .ref (q 208), .int 0, .int 0, .ref (q 209), .ref (q 210), .ref (q 211), .ref (q 212), .ref (q 213), .int 0, .int 0, .ref (q 214), .ref (q 215), .ref (q 216), .int 0, .int 0])), ((q 201), .inl (k 1, 5340, .inl at0))]) (wr := []) hx hb hml hown hts hKK hP hD hS hA (r_ruled l D k q (xs 1) (xs 2)) ci_X12_ruled qm_L_193 ⟨Nat.le_of_ble_eq_true rfl, Nat.le_of_ble_eq_true rfl⟩ ⟨Nat.le_of_ble_eq_true rfl, Nat.le_of_ble_eq_true rfl⟩ [0, 1] [] rfl rfl rfl rfl rfl (by decide) 0 rfl rfl rfl hl.1 rfl (Nat.le_of_ble_eq_true rfl) dL_law_1845 (fun u_6 H locs hφ hP hD hS => ?_)
  have hP : va_P D vwCl [] H := hP
  have hD : va_D A [] := hD
  refine W.eq (g2 := F0 m 1848 ls [.int (-1), .int (-1)]) rfl ?_
  refine lv_icmp_eq (tgt := 2849) hx hb dL_law_1848 (by decide) (fun _ => ?_) (fun c => absurd (by decide) c)
  exact law_done hx hb hr hlocks hX hbl hbA hAf hS (by decide) (by decide) hl
set_option maxHeartbeats 4000000 in
set_option maxRecDepth 100000 in
theorem law_c42 {p : Program} {e : Env} {s : State} {m : MethodId} {below : List Frame} {meth : Method} {c : Code} (l : Launch) {b : Nat} {xs : Nat → Int32} {A : Nat → Prop} {D : va_G} {k : Nat → ClassId} {q : Nat → Nat} {H : Heap} {locs : List Loc} {ls : Array Slot} (C : LC p s m meth c b xs A D k q H locs ls) : W p l e room_1 s m #[Value.ref b] below meth c H locs 123 16705 (lw_Z below #[Value.ref b] s) (F0 m 1853 ls []) := by
  obtain ⟨hx, hb, hr, hml, hown, hts, hKK, hX, hbl, hbA, hA, hAf, hlocks, hP, hD, hS, hl⟩ := C
  refine lv_aload_n hx hb dL_law_1853 rfl (lv_at hl 2 rfl) ?_
  refine lv_aload_n hx hb dL_law_1854 rfl (lv_at hl 3 rfl) ?_
  refine lv_iload_n hx hb dL_law_1855 rfl (lv_at hl 0 rfl) ?_
  refine lv_iconst (v := 1) hx hb dL_law_1856 (by decide) ?_
  refine lv_iadd hx hb dL_law_1857 ?_
  refine lv_topi (fun x_1 ex_1 => ?_)
  obtain rfl : x_1 = 1 := ex_1.trans (by decide +kernel)
  refine va_sld hx hb hX hbl hbA hS (xin 1 6 rfl (by decide) (by decide)) dL_law_1858 ?_
  refine W.eq (g2 := F0 m 1859 ls [.int (xs 1), .ref (q 0)]) rfl ?_
  refine lv_aload_n hx hb dL_law_1859 rfl (lv_at hl 3 rfl) ?_
  refine lv_iload_n hx hb dL_law_1860 rfl (lv_at hl 0 rfl) ?_
  refine lv_iconst (v := 2) hx hb dL_law_1861 (by decide) ?_
  refine lv_iadd hx hb dL_law_1862 ?_
  refine lv_topi (fun x_2 ex_2 => ?_)
  obtain rfl : x_2 = 2 := ex_2.trans (by decide +kernel)
  refine va_sld hx hb hX hbl hbA hS (xin 2 6 rfl (by decide) (by decide)) dL_law_1863 ?_
  refine W.eq (g2 := F0 m 1864 ls [.int (xs 2), .int (xs 1), .ref (q 0)]) rfl ?_
  refine lv_aload_n hx hb dL_law_1864 rfl (lv_at hl 3 rfl) ?_
  refine lv_iload_n hx hb dL_law_1865 rfl (lv_at hl 0 rfl) ?_
  refine lv_iconst (v := 3) hx hb dL_law_1866 (by decide) ?_
  refine lv_iadd hx hb dL_law_1867 ?_
  refine lv_topi (fun x_3 ex_3 => ?_)
  obtain rfl : x_3 = 3 := ex_3.trans (by decide +kernel)
  refine va_sld hx hb hX hbl hbA hS (xin 3 6 rfl (by decide) (by decide)) dL_law_1868 ?_
  refine W.eq (g2 := F0 m 1869 ls [.int (xs 3), .int (xs 2), .int (xs 1), .ref (q 0)]) rfl ?_
  refine CWV (As := [.int (xs 1), .int (xs 2), .int (xs 3)]) (rest := []) (wc := [((q 0), .inr (11, [.ref (q 1), .ref (q 2), .ref (q 3), .ref (q 4), .ref (q 5), .ref (q 6), .ref (q 7), .ref (q 8), .ref (q 9), .ref (q 10), .ref (q 11), .int 0, .int 0, .int 0, .long 0, .long 1])), ((q 2), .inr (8, [.ref (q 20), .ref (q 21), .ref (q 22)])), ((q 20), .inr (5, [.ref (q 23), .ref (q 24), .ref (q 25), .int 0, .int 0, .int 0, .int 0])), ((q 21), .inr (0, [.ref (q 26), .ref (q 27), .ref (q 28), .ref (q 29), .int 0, .int 0]))]) (wr := [((q 200), .inr (12, [.ref (q 201), .ref (q 202), .int 0, .long 0, .long 1, .ref (q 203), .ref (q 204), .ref (q 205), .ref (q 206), .ref (q 207), .int 0, .int 0, .int 0, .int 0, .int 0, .int 0, .int (-1), .int (-1), .int 0, .int 0, .int 0, .ref (q 208), .int 0, .int 0, .ref (q 209), .ref (q 210), .ref (q 211), .ref (q 212), .ref (q 213), .int 0, .int 0, .ref (q 214), .ref (q 215), .ref (q 216), .int 0, .int 0])), ((q 201), .inl (k 1, 5340, .inl at0))]) hx hb hml hown hts hKK hP hD hS hA (p_before l D k q (xs 1) (xs 2) (xs 3)) ci_X11_before qm_L_194 ⟨Nat.le_of_ble_eq_true rfl, Nat.le_of_ble_eq_true rfl⟩ ⟨Nat.le_of_ble_eq_true rfl, Nat.le_of_ble_eq_true rfl⟩ [0, 11, 12, 16] [66, 67] rfl rfl rfl rfl rfl (by decide) 0 rfl rfl rfl hl.1 rfl (Nat.le_of_ble_eq_true rfl) dL_law_1869 (fun u_4 H locs hφ hP hD hS => ?_)
  have hP : va_P D vwCl [((q 200), .inr (12, [.ref (q 201), .ref (q 202), .int 0, .long 0, .long 1, .ref (q 203), .ref (q 204), .ref (q 205), .ref (q 206), .ref (q 207), .int 0, .int 0, .int 0, .int 0, .int 0, .int 0, .int (-1), .int (-1), .int 0, .int 0, .int 0, .ref (q 208), .int 0, .int 0, .ref (q 209), .ref (q 210), .ref (q 211), .ref (q 212), .ref (q 213), .int 0, .int 0, .ref (q 214), .ref (q 215), .ref (q 216), .int 0, .int 0])), ((q 201), .inl (k 1, 5340, .inl at0))] H := hP
  have hD : va_D A [((q 200), .inr (12, [.ref (q 201), .ref (q 202), .int 0, .long 0, .long 1, .ref (q 203), .ref (q 204), .ref (q 205), .ref (q 206), .ref (q 207), .int 0, .int 0, .int 0, .int 0, .int 0, .int 0, .int (-1), .int (-1), .int 0, .int 0, .int 0, .ref (q 208), .int 0, .int 0, .ref (q 209), .ref (q 210), .ref (q 211), .ref (q 212), .ref (q 213), .int 0, .int 0, .ref (q 214), .ref (q 215), .ref (q 216), .int 0, .int 0])), ((q 201), .inl (k 1, 5340, .inl at0))] := hD
  refine W.eq (g2 := F0 m 1872 ls [.int (-1)]) rfl ?_
  refine lv_aload_n hx hb dL_law_1872 rfl (lv_at hl 1 rfl) ?_
  refine lv_aload_n hx hb dL_law_1873 rfl (lv_at hl 3 rfl) ?_
  refine lv_iload_n hx hb dL_law_1874 rfl (lv_at hl 0 rfl) ?_
  refine lv_iconst (v := 1) hx hb dL_law_1875 (by decide) ?_
  refine lv_iadd hx hb dL_law_1876 ?_
  refine lv_topi (fun x_5 ex_5 => ?_)
  obtain rfl : x_5 = 1 := ex_5.trans (by decide +kernel)
  refine va_sld hx hb hX hbl hbA hS (xin 1 6 rfl (by decide) (by decide)) dL_law_1877 ?_
  refine W.eq (g2 := F0 m 1878 ls [.int (xs 1), .ref (q 200), .int (-1)]) rfl ?_
  refine lv_aload_n hx hb dL_law_1878 rfl (lv_at hl 3 rfl) ?_
  refine lv_iload_n hx hb dL_law_1879 rfl (lv_at hl 0 rfl) ?_
  refine lv_iconst (v := 2) hx hb dL_law_1880 (by decide) ?_
  refine lv_iadd hx hb dL_law_1881 ?_
  refine lv_topi (fun x_6 ex_6 => ?_)
  obtain rfl : x_6 = 2 := ex_6.trans (by decide +kernel)
  refine va_sld hx hb hX hbl hbA hS (xin 2 6 rfl (by decide) (by decide)) dL_law_1882 ?_
  refine W.eq (g2 := F0 m 1883 ls [.int (xs 2), .int (xs 1), .ref (q 200), .int (-1)]) rfl ?_
  refine lv_aload_n hx hb dL_law_1883 rfl (lv_at hl 3 rfl) ?_
  refine lv_iload_n hx hb dL_law_1884 rfl (lv_at hl 0 rfl) ?_
  refine lv_iconst (v := 3) hx hb dL_law_1885 (by decide) ?_
  refine lv_iadd hx hb dL_law_1886 ?_
  refine lv_topi (fun x_7 ex_7 => ?_)
  obtain rfl : x_7 = 3 := ex_7.trans (by decide +kernel)
  refine va_sld hx hb hX hbl hbA hS (xin 3 6 rfl (by decide) (by decide)) dL_law_1887 ?_
  refine W.eq (g2 := F0 m 1888 ls [.int (xs 3), .int (xs 2), .int (xs 1), .ref (q 200), .int (-1)]) rfl ?_
  refine CWV (As := [.int (xs 1), .int (xs 2), .int (xs 3)]) (rest := [.int (-1)]) (wc := [((q 200), .inr (12, [.ref (q 201), .ref (q 202), .int 0, .long 0, .long 1, .ref (q 203), .ref (q 204), .ref (q 205), .ref (q 206), .ref (q 207), .int 0, .int 0, .int 0, .int 0, .int 0, .int 0, .int (-1), .int (-1), .int 0, .int 0, .int 0, .ref (q 208), .int 0, .int 0, .ref (q 209), .ref (q 210), .ref (q 211), .ref (q 212), .ref (q 213), .int 0, .int 0, .ref (q 214), .ref (q 215), .ref (q 216), .int 0, .int 0])), ((q 201), .inl (k 1, 5340, .inl at0))]) (wr := []) hx hb hml hown hts hKK hP hD hS hA (r_before l D k q (xs 1) (xs 2) (xs 3)) ci_X12_before qm_L_197 ⟨Nat.le_of_ble_eq_true rfl, Nat.le_of_ble_eq_true rfl⟩ ⟨Nat.le_of_ble_eq_true rfl, Nat.le_of_ble_eq_true rfl⟩ [0, 1] [] rfl rfl rfl rfl rfl (by decide) 0 rfl rfl rfl hl.1 rfl (Nat.le_of_ble_eq_true rfl) dL_law_1888 (fun u_8 H locs hφ hP hD hS => ?_)
  have hP : va_P D vwCl [] H := hP
  have hD : va_D A [] := hD
  refine W.eq (g2 := F0 m 1891 ls [.int (-1), .int (-1)]) rfl ?_
  refine lv_icmp_eq (tgt := 2849) hx hb dL_law_1891 (by decide) (fun _ => ?_) (fun c => absurd (by decide) c)
  exact law_done hx hb hr hlocks hX hbl hbA hAf hS (by decide) (by decide) hl
set_option maxHeartbeats 4000000 in
set_option maxRecDepth 100000 in
theorem law_c43 {p : Program} {e : Env} {s : State} {m : MethodId} {below : List Frame} {meth : Method} {c : Code} (l : Launch) {b : Nat} {xs : Nat → Int32} {A : Nat → Prop} {D : va_G} {k : Nat → ClassId} {q : Nat → Nat} {H : Heap} {locs : List Loc} {ls : Array Slot} (C : LC p s m meth c b xs A D k q H locs ls) : W p l e room_1 s m #[Value.ref b] below meth c H locs 123 16705 (lw_Z below #[Value.ref b] s) (F0 m 1896 ls []) := by
  obtain ⟨hx, hb, hr, hml, hown, hts, hKK, hX, hbl, hbA, hA, hAf, hlocks, hP, hD, hS, hl⟩ := C
  refine lv_aload_n hx hb dL_law_1896 rfl (lv_at hl 2 rfl) ?_
  refine lv_aload_n hx hb dL_law_1897 rfl (lv_at hl 3 rfl) ?_
  refine lv_iload_n hx hb dL_law_1898 rfl (lv_at hl 0 rfl) ?_
  refine lv_iconst (v := 1) hx hb dL_law_1899 (by decide) ?_
  refine lv_iadd hx hb dL_law_1900 ?_
  refine lv_topi (fun x_1 ex_1 => ?_)
  obtain rfl : x_1 = 1 := ex_1.trans (by decide +kernel)
  refine va_sld hx hb hX hbl hbA hS (xin 1 6 rfl (by decide) (by decide)) dL_law_1901 ?_
  refine W.eq (g2 := F0 m 1902 ls [.int (xs 1), .ref (q 0)]) rfl ?_
  refine lv_aload_n hx hb dL_law_1902 rfl (lv_at hl 3 rfl) ?_
  refine lv_iload_n hx hb dL_law_1903 rfl (lv_at hl 0 rfl) ?_
  refine lv_iconst (v := 2) hx hb dL_law_1904 (by decide) ?_
  refine lv_iadd hx hb dL_law_1905 ?_
  refine lv_topi (fun x_2 ex_2 => ?_)
  obtain rfl : x_2 = 2 := ex_2.trans (by decide +kernel)
  refine va_sld hx hb hX hbl hbA hS (xin 2 6 rfl (by decide) (by decide)) dL_law_1906 ?_
  refine W.eq (g2 := F0 m 1907 ls [.int (xs 2), .int (xs 1), .ref (q 0)]) rfl ?_
  refine CWV (As := [.int (xs 1), .int (xs 2)]) (rest := []) (wc := [((q 0), .inr (11, [.ref (q 1), .ref (q 2), .ref (q 3), .ref (q 4), .ref (q 5), .ref (q 6), .ref (q 7), .ref (q 8), .ref (q 9), .ref (q 10), .ref (q 11), .int 0, .int 0, .int 0, .long 0, .long 1])), ((q 2), .inr (8, [.ref (q 20), .ref (q 21), .ref (q 22)])), ((q 20), .inr (5, [.ref (q 23), .ref (q 24), .ref (q 25), .int 0, .int 0, .int 0, .int 0])), ((q 21), .inr (0, [.ref (q 26), .ref (q 27), .ref (q 28), .ref (q 29), .int 0, .int 0]))]) (wr := [((q 200), .inr (12, [.ref (q 201), .ref (q 202), .int 0, .long 0, .long 1, .ref (q 203), .ref (q 204), .ref (q 205), .ref (q 206), .ref (q 207), .int 0, .int 0, .int 0, .int 0, .int 0, .int 0, .int (-1), .int (-1), .int 0, .int 0, .int 0, .ref (q 208), .int 0, .int 0, .ref (q 209), .ref (q 210), .ref (q 211), .ref (q 212), .ref (q 213), .int 0, .int 0, .ref (q 214), .ref (q 215), .ref (q 216), .int 0, .int 0])), ((q 201), .inl (k 1, 5340, .inl at0))]) hx hb hml hown hts hKK hP hD hS hA (p_oneForAll l D k q (xs 1) (xs 2)) ci_X11_oneForAll qm_L_198 ⟨Nat.le_of_ble_eq_true rfl, Nat.le_of_ble_eq_true rfl⟩ ⟨Nat.le_of_ble_eq_true rfl, Nat.le_of_ble_eq_true rfl⟩ [0, 11, 12, 16] [66, 67] rfl rfl rfl rfl rfl (by decide) 0 rfl rfl rfl hl.1 rfl (Nat.le_of_ble_eq_true rfl) dL_law_1907 (fun u_3 H locs hφ hP hD hS => ?_)
  have hP : va_P D vwCl [((q 200), .inr (12, [.ref (q 201), .ref (q 202), .int 0, .long 0, .long 1, .ref (q 203), .ref (q 204), .ref (q 205), .ref (q 206), .ref (q 207), .int 0, .int 0, .int 0, .int 0, .int 0, .int 0, .int (-1), .int (-1), .int 0, .int 0, .int 0, .ref (q 208), .int 0, .int 0, .ref (q 209), .ref (q 210), .ref (q 211), .ref (q 212), .ref (q 213), .int 0, .int 0, .ref (q 214), .ref (q 215), .ref (q 216), .int 0, .int 0])), ((q 201), .inl (k 1, 5340, .inl at0))] H := hP
  have hD : va_D A [((q 200), .inr (12, [.ref (q 201), .ref (q 202), .int 0, .long 0, .long 1, .ref (q 203), .ref (q 204), .ref (q 205), .ref (q 206), .ref (q 207), .int 0, .int 0, .int 0, .int 0, .int 0, .int 0, .int (-1), .int (-1), .int 0, .int 0, .int 0, .ref (q 208), .int 0, .int 0, .ref (q 209), .ref (q 210), .ref (q 211), .ref (q 212), .ref (q 213), .int 0, .int 0, .ref (q 214), .ref (q 215), .ref (q 216), .int 0, .int 0])), ((q 201), .inl (k 1, 5340, .inl at0))] := hD
  refine W.eq (g2 := F0 m 1910 ls [.int (-1)]) rfl ?_
  refine lv_aload_n hx hb dL_law_1910 rfl (lv_at hl 1 rfl) ?_
  refine lv_aload_n hx hb dL_law_1911 rfl (lv_at hl 3 rfl) ?_
  refine lv_iload_n hx hb dL_law_1912 rfl (lv_at hl 0 rfl) ?_
  refine lv_iconst (v := 1) hx hb dL_law_1913 (by decide) ?_
  refine lv_iadd hx hb dL_law_1914 ?_
  refine lv_topi (fun x_4 ex_4 => ?_)
  obtain rfl : x_4 = 1 := ex_4.trans (by decide +kernel)
  refine va_sld hx hb hX hbl hbA hS (xin 1 6 rfl (by decide) (by decide)) dL_law_1915 ?_
  refine W.eq (g2 := F0 m 1916 ls [.int (xs 1), .ref (q 200), .int (-1)]) rfl ?_
  refine lv_aload_n hx hb dL_law_1916 rfl (lv_at hl 3 rfl) ?_
  refine lv_iload_n hx hb dL_law_1917 rfl (lv_at hl 0 rfl) ?_
  refine lv_iconst (v := 2) hx hb dL_law_1918 (by decide) ?_
  refine lv_iadd hx hb dL_law_1919 ?_
  refine lv_topi (fun x_5 ex_5 => ?_)
  obtain rfl : x_5 = 2 := ex_5.trans (by decide +kernel)
  refine va_sld hx hb hX hbl hbA hS (xin 2 6 rfl (by decide) (by decide)) dL_law_1920 ?_
  refine W.eq (g2 := F0 m 1921 ls [.int (xs 2), .int (xs 1), .ref (q 200), .int (-1)]) rfl ?_
  refine CWV (As := [.int (xs 1), .int (xs 2)]) (rest := [.int (-1)]) (wc := [((q 200), .inr (12, [.ref (q 201), .ref (q 202), .int 0, .long 0, .long 1, .ref (q 203), .ref (q 204), .ref (q 205), .ref (q 206), .ref (q 207), .int 0, .int 0, .int 0, .int 0, .int 0, .int 0, .int (-1), .int (-1), .int 0, .int 0, .int 0, .ref (q 208), .int 0, .int 0, .ref (q 209), .ref (q 210), .ref (q 211), .ref (q 212), .ref (q 213), .int 0, .int 0, .ref (q 214), .ref (q 215), .ref (q 216), .int 0, .int 0])), ((q 201), .inl (k 1, 5340, .inl at0))]) (wr := []) hx hb hml hown hts hKK hP hD hS hA (r_oneForAll l D k q (xs 1) (xs 2)) ci_X12_oneForAll qm_L_201 ⟨Nat.le_of_ble_eq_true rfl, Nat.le_of_ble_eq_true rfl⟩ ⟨Nat.le_of_ble_eq_true rfl, Nat.le_of_ble_eq_true rfl⟩ [0, 1] [] rfl rfl rfl rfl rfl (by decide) 0 rfl rfl rfl hl.1 rfl (Nat.le_of_ble_eq_true rfl) dL_law_1921 (fun u_6 H locs hφ hP hD hS => ?_)
  have hP : va_P D vwCl [] H := hP
  have hD : va_D A [] := hD
  refine W.eq (g2 := F0 m 1924 ls [.int (-1), .int (-1)]) rfl ?_
  refine lv_icmp_eq (tgt := 2849) hx hb dL_law_1924 (by decide) (fun _ => ?_) (fun c => absurd (by decide) c)
  exact law_done hx hb hr hlocks hX hbl hbA hAf hS (by decide) (by decide) hl
set_option maxHeartbeats 4000000 in
set_option maxRecDepth 100000 in
theorem law_c44 {p : Program} {e : Env} {s : State} {m : MethodId} {below : List Frame} {meth : Method} {c : Code} (l : Launch) {b : Nat} {xs : Nat → Int32} {A : Nat → Prop} {D : va_G} {k : Nat → ClassId} {q : Nat → Nat} {H : Heap} {locs : List Loc} {ls : Array Slot} (C : LC p s m meth c b xs A D k q H locs ls) : W p l e room_1 s m #[Value.ref b] below meth c H locs 123 16705 (lw_Z below #[Value.ref b] s) (F0 m 1929 ls []) := by
  obtain ⟨hx, hb, hr, hml, hown, hts, hKK, hX, hbl, hbA, hA, hAf, hlocks, hP, hD, hS, hl⟩ := C
  refine lv_aload_n hx hb dL_law_1929 rfl (lv_at hl 2 rfl) ?_
  refine CWV (As := []) (rest := []) (wc := [((q 0), .inr (11, [.ref (q 1), .ref (q 2), .ref (q 3), .ref (q 4), .ref (q 5), .ref (q 6), .ref (q 7), .ref (q 8), .ref (q 9), .ref (q 10), .ref (q 11), .int 0, .int 0, .int 0, .long 0, .long 1])), ((q 2), .inr (8, [.ref (q 20), .ref (q 21), .ref (q 22)])), ((q 20), .inr (5, [.ref (q 23), .ref (q 24), .ref (q 25), .int 0, .int 0, .int 0, .int 0])), ((q 21), .inr (0, [.ref (q 26), .ref (q 27), .ref (q 28), .ref (q 29), .int 0, .int 0]))]) (wr := [((q 200), .inr (12, [.ref (q 201), .ref (q 202), .int 0, .long 0, .long 1, .ref (q 203), .ref (q 204), .ref (q 205), .ref (q 206), .ref (q 207), .int 0, .int 0, .int 0, .int 0, .int 0, .int 0, .int (-1), .int (-1), .int 0, .int 0, .int 0, .ref (q 208), .int 0, .int 0, .ref (q 209), .ref (q 210), .ref (q 211), .ref (q 212), .ref (q 213), .int 0, .int 0, .ref (q 214), .ref (q 215), .ref (q 216), .int 0, .int 0])), ((q 201), .inl (k 1, 5340, .inl at0))]) hx hb hml hown hts hKK hP hD hS hA (p_disputes l D k q) ci_X11_disputes qm_L_202 ⟨Nat.le_of_ble_eq_true rfl, Nat.le_of_ble_eq_true rfl⟩ ⟨Nat.le_of_ble_eq_true rfl, Nat.le_of_ble_eq_true rfl⟩ [0, 11, 12, 16] [66, 67] rfl rfl rfl rfl rfl (by decide) 0 rfl rfl rfl hl.1 rfl (Nat.le_of_ble_eq_true rfl) dL_law_1930 (fun u_1 H locs hφ hP hD hS => ?_)
  have hP : va_P D vwCl [((q 200), .inr (12, [.ref (q 201), .ref (q 202), .int 0, .long 0, .long 1, .ref (q 203), .ref (q 204), .ref (q 205), .ref (q 206), .ref (q 207), .int 0, .int 0, .int 0, .int 0, .int 0, .int 0, .int (-1), .int (-1), .int 0, .int 0, .int 0, .ref (q 208), .int 0, .int 0, .ref (q 209), .ref (q 210), .ref (q 211), .ref (q 212), .ref (q 213), .int 0, .int 0, .ref (q 214), .ref (q 215), .ref (q 216), .int 0, .int 0])), ((q 201), .inl (k 1, 5340, .inl at0))] H := hP
  have hD : va_D A [((q 200), .inr (12, [.ref (q 201), .ref (q 202), .int 0, .long 0, .long 1, .ref (q 203), .ref (q 204), .ref (q 205), .ref (q 206), .ref (q 207), .int 0, .int 0, .int 0, .int 0, .int 0, .int 0, .int (-1), .int (-1), .int 0, .int 0, .int 0, .ref (q 208), .int 0, .int 0, .ref (q 209), .ref (q 210), .ref (q 211), .ref (q 212), .ref (q 213), .int 0, .int 0, .ref (q 214), .ref (q 215), .ref (q 216), .int 0, .int 0])), ((q 201), .inl (k 1, 5340, .inl at0))] := hD
  refine W.eq (g2 := F0 m 1933 ls [.int 0]) rfl ?_
  refine lv_aload_n hx hb dL_law_1933 rfl (lv_at hl 1 rfl) ?_
  refine CWV (As := []) (rest := [.int 0]) (wc := [((q 200), .inr (12, [.ref (q 201), .ref (q 202), .int 0, .long 0, .long 1, .ref (q 203), .ref (q 204), .ref (q 205), .ref (q 206), .ref (q 207), .int 0, .int 0, .int 0, .int 0, .int 0, .int 0, .int (-1), .int (-1), .int 0, .int 0, .int 0, .ref (q 208), .int 0, .int 0, .ref (q 209), .ref (q 210), .ref (q 211), .ref (q 212), .ref (q 213), .int 0, .int 0, .ref (q 214), .ref (q 215), .ref (q 216), .int 0, .int 0])), ((q 201), .inl (k 1, 5340, .inl at0))]) (wr := []) hx hb hml hown hts hKK hP hD hS hA (r_disputes l D k q) ci_X12_disputes qm_L_205 ⟨Nat.le_of_ble_eq_true rfl, Nat.le_of_ble_eq_true rfl⟩ ⟨Nat.le_of_ble_eq_true rfl, Nat.le_of_ble_eq_true rfl⟩ [0, 1] [] rfl rfl rfl rfl rfl (by decide) 0 rfl rfl rfl hl.1 rfl (Nat.le_of_ble_eq_true rfl) dL_law_1934 (fun u_2 H locs hφ hP hD hS => ?_)
  have hP : va_P D vwCl [] H := hP
  have hD : va_D A [] := hD
  refine W.eq (g2 := F0 m 1937 ls [.int 0, .int 0]) rfl ?_
  refine lv_icmp_eq (tgt := 2849) hx hb dL_law_1937 (by decide) (fun _ => ?_) (fun c => absurd (by decide) c)
  exact law_done hx hb hr hlocks hX hbl hbA hAf hS (by decide) (by decide) hl
set_option maxHeartbeats 4000000 in
set_option maxRecDepth 100000 in
theorem law_c45 {p : Program} {e : Env} {s : State} {m : MethodId} {below : List Frame} {meth : Method} {c : Code} (l : Launch) {b : Nat} {xs : Nat → Int32} {A : Nat → Prop} {D : va_G} {k : Nat → ClassId} {q : Nat → Nat} {H : Heap} {locs : List Loc} {ls : Array Slot} (C : LC p s m meth c b xs A D k q H locs ls) : W p l e room_1 s m #[Value.ref b] below meth c H locs 123 16705 (lw_Z below #[Value.ref b] s) (F0 m 1942 ls []) := by
  obtain ⟨hx, hb, hr, hml, hown, hts, hKK, hX, hbl, hbA, hA, hAf, hlocks, hP, hD, hS, hl⟩ := C
  refine lv_aload_n hx hb dL_law_1942 rfl (lv_at hl 2 rfl) ?_
  refine lv_aload_n hx hb dL_law_1943 rfl (lv_at hl 3 rfl) ?_
  refine lv_iload_n hx hb dL_law_1944 rfl (lv_at hl 0 rfl) ?_
  refine lv_iconst (v := 1) hx hb dL_law_1945 (by decide) ?_
  refine lv_iadd hx hb dL_law_1946 ?_
  refine lv_topi (fun x_1 ex_1 => ?_)
  obtain rfl : x_1 = 1 := ex_1.trans (by decide +kernel)
  refine va_sld hx hb hX hbl hbA hS (xin 1 6 rfl (by decide) (by decide)) dL_law_1947 ?_
  refine W.eq (g2 := F0 m 1948 ls [.int (xs 1), .ref (q 0)]) rfl ?_
  refine CWV (As := [.int (xs 1)]) (rest := []) (wc := [((q 0), .inr (11, [.ref (q 1), .ref (q 2), .ref (q 3), .ref (q 4), .ref (q 5), .ref (q 6), .ref (q 7), .ref (q 8), .ref (q 9), .ref (q 10), .ref (q 11), .int 0, .int 0, .int 0, .long 0, .long 1])), ((q 2), .inr (8, [.ref (q 20), .ref (q 21), .ref (q 22)])), ((q 20), .inr (5, [.ref (q 23), .ref (q 24), .ref (q 25), .int 0, .int 0, .int 0, .int 0])), ((q 21), .inr (0, [.ref (q 26), .ref (q 27), .ref (q 28), .ref (q 29), .int 0, .int 0]))]) (wr := [((q 200), .inr (12, [.ref (q 201), .ref (q 202), .int 0, .long 0, .long 1, .ref (q 203), .ref (q 204), .ref (q 205), .ref (q 206), .ref (q 207), .int 0, .int 0, .int 0, .int 0, .int 0, .int 0, .int (-1), .int (-1), .int 0, .int 0, .int 0, .ref (q 208), .int 0, .int 0, .ref (q 209), .ref (q 210), .ref (q 211), .ref (q 212), .ref (q 213), .int 0, .int 0, .ref (q 214), .ref (q 215), .ref (q 216), .int 0, .int 0])), ((q 201), .inl (k 1, 5340, .inl at0))]) hx hb hml hown hts hKK hP hD hS hA (p_peace l D k q (xs 1)) ci_X11_peace qm_L_206 ⟨Nat.le_of_ble_eq_true rfl, Nat.le_of_ble_eq_true rfl⟩ ⟨Nat.le_of_ble_eq_true rfl, Nat.le_of_ble_eq_true rfl⟩ [0, 11, 12, 16] [66, 67] rfl rfl rfl rfl rfl (by decide) 0 rfl rfl rfl hl.1 rfl (Nat.le_of_ble_eq_true rfl) dL_law_1948 (fun u_2 H locs hφ hP hD hS => ?_)
  have hP : va_P D vwCl [((q 200), .inr (12, [.ref (q 201), .ref (q 202), .int 0, .long 0, .long 1, .ref (q 203), .ref (q 204), .ref (q 205), .ref (q 206), .ref (q 207), .int 0, .int 0, .int 0, .int 0, .int 0, .int 0, .int (-1), .int (-1), .int 0, .int 0, .int 0, .ref (q 208), .int 0, .int 0, .ref (q 209), .ref (q 210), .ref (q 211), .ref (q 212), .ref (q 213), .int 0, .int 0, .ref (q 214), .ref (q 215), .ref (q 216), .int 0, .int 0])), ((q 201), .inl (k 1, 5340, .inl at0))] H := hP
  have hD : va_D A [((q 200), .inr (12, [.ref (q 201), .ref (q 202), .int 0, .long 0, .long 1, .ref (q 203), .ref (q 204), .ref (q 205), .ref (q 206), .ref (q 207), .int 0, .int 0, .int 0, .int 0, .int 0, .int 0, .int (-1), .int (-1), .int 0, .int 0, .int 0, .ref (q 208), .int 0, .int 0, .ref (q 209), .ref (q 210), .ref (q 211), .ref (q 212), .ref (q 213), .int 0, .int 0, .ref (q 214), .ref (q 215), .ref (q 216), .int 0, .int 0])), ((q 201), .inl (k 1, 5340, .inl at0))] := hD
  refine W.eq (g2 := F0 m 1951 ls [.int (-1)]) rfl ?_
  refine lv_aload_n hx hb dL_law_1951 rfl (lv_at hl 1 rfl) ?_
  refine lv_aload_n hx hb dL_law_1952 rfl (lv_at hl 3 rfl) ?_
  refine lv_iload_n hx hb dL_law_1953 rfl (lv_at hl 0 rfl) ?_
  refine lv_iconst (v := 1) hx hb dL_law_1954 (by decide) ?_
  refine lv_iadd hx hb dL_law_1955 ?_
  refine lv_topi (fun x_3 ex_3 => ?_)
  obtain rfl : x_3 = 1 := ex_3.trans (by decide +kernel)
  refine va_sld hx hb hX hbl hbA hS (xin 1 6 rfl (by decide) (by decide)) dL_law_1956 ?_
  refine W.eq (g2 := F0 m 1957 ls [.int (xs 1), .ref (q 200), .int (-1)]) rfl ?_
  refine CWV (As := [.int (xs 1)]) (rest := [.int (-1)]) (wc := [((q 200), .inr (12, [.ref (q 201), .ref (q 202), .int 0, .long 0, .long 1, .ref (q 203), .ref (q 204), .ref (q 205), .ref (q 206), .ref (q 207), .int 0, .int 0, .int 0, .int 0, .int 0, .int 0, .int (-1), .int (-1), .int 0, .int 0, .int 0, .ref (q 208), .int 0, .int 0, .ref (q 209), .ref (q 210), .ref (q 211), .ref (q 212), .ref (q 213), .int 0, .int 0, .ref (q 214), .ref (q 215), .ref (q 216), .int 0, .int 0])), ((q 201), .inl (k 1, 5340, .inl at0))]) (wr := []) hx hb hml hown hts hKK hP hD hS hA (r_peace l D k q (xs 1)) ci_X12_peace qm_L_209 ⟨Nat.le_of_ble_eq_true rfl, Nat.le_of_ble_eq_true rfl⟩ ⟨Nat.le_of_ble_eq_true rfl, Nat.le_of_ble_eq_true rfl⟩ [0, 1] [] rfl rfl rfl rfl rfl (by decide) 0 rfl rfl rfl hl.1 rfl (Nat.le_of_ble_eq_true rfl) dL_law_1957 (fun u_4 H locs hφ hP hD hS => ?_)
  have hP : va_P D vwCl [] H := hP
  have hD : va_D A [] := hD
  refine W.eq (g2 := F0 m 1960 ls [.int (-1), .int (-1)]) rfl ?_
  refine lv_icmp_eq (tgt := 2849) hx hb dL_law_1960 (by decide) (fun _ => ?_) (fun c => absurd (by decide) c)
  exact law_done hx hb hr hlocks hX hbl hbA hAf hS (by decide) (by decide) hl
set_option maxHeartbeats 4000000 in
set_option maxRecDepth 100000 in
theorem law_c46 {p : Program} {e : Env} {s : State} {m : MethodId} {below : List Frame} {meth : Method} {c : Code} (l : Launch) {b : Nat} {xs : Nat → Int32} {A : Nat → Prop} {D : va_G} {k : Nat → ClassId} {q : Nat → Nat} {H : Heap} {locs : List Loc} {ls : Array Slot} (C : LC p s m meth c b xs A D k q H locs ls) : W p l e room_1 s m #[Value.ref b] below meth c H locs 123 16705 (lw_Z below #[Value.ref b] s) (F0 m 1965 ls []) := by
  obtain ⟨hx, hb, hr, hml, hown, hts, hKK, hX, hbl, hbA, hA, hAf, hlocks, hP, hD, hS, hl⟩ := C
  refine lv_aload_n hx hb dL_law_1965 rfl (lv_at hl 2 rfl) ?_
  refine lv_aload_n hx hb dL_law_1966 rfl (lv_at hl 3 rfl) ?_
  refine lv_iload_n hx hb dL_law_1967 rfl (lv_at hl 0 rfl) ?_
  refine lv_iconst (v := 1) hx hb dL_law_1968 (by decide) ?_
  refine lv_iadd hx hb dL_law_1969 ?_
  refine lv_topi (fun x_1 ex_1 => ?_)
  obtain rfl : x_1 = 1 := ex_1.trans (by decide +kernel)
  refine va_sld hx hb hX hbl hbA hS (xin 1 6 rfl (by decide) (by decide)) dL_law_1970 ?_
  refine W.eq (g2 := F0 m 1971 ls [.int (xs 1), .ref (q 0)]) rfl ?_
  refine lv_aload_n hx hb dL_law_1971 rfl (lv_at hl 3 rfl) ?_
  refine lv_iload_n hx hb dL_law_1972 rfl (lv_at hl 0 rfl) ?_
  refine lv_iconst (v := 2) hx hb dL_law_1973 (by decide) ?_
  refine lv_iadd hx hb dL_law_1974 ?_
  refine lv_topi (fun x_2 ex_2 => ?_)
  obtain rfl : x_2 = 2 := ex_2.trans (by decide +kernel)
  refine va_sld hx hb hX hbl hbA hS (xin 2 6 rfl (by decide) (by decide)) dL_law_1975 ?_
  refine W.eq (g2 := F0 m 1976 ls [.int (xs 2), .int (xs 1), .ref (q 0)]) rfl ?_
  refine CWV (As := [.int (xs 1), .int (xs 2)]) (rest := []) (wc := [((q 0), .inr (11, [.ref (q 1), .ref (q 2), .ref (q 3), .ref (q 4), .ref (q 5), .ref (q 6), .ref (q 7), .ref (q 8), .ref (q 9), .ref (q 10), .ref (q 11), .int 0, .int 0, .int 0, .long 0, .long 1])), ((q 2), .inr (8, [.ref (q 20), .ref (q 21), .ref (q 22)])), ((q 20), .inr (5, [.ref (q 23), .ref (q 24), .ref (q 25), .int 0, .int 0, .int 0, .int 0])), ((q 21), .inr (0, [.ref (q 26), .ref (q 27), .ref (q 28), .ref (q 29), .int 0, .int 0]))]) (wr := [((q 200), .inr (12, [.ref (q 201), .ref (q 202), .int 0, .long 0, .long 1, .ref (q 203), .ref (q 204), .ref (q 205), .ref (q 206), .ref (q 207), .int 0, .int 0, .int 0, .int 0, .int 0, .int 0, .int (-1), .int (-1), .int 0, .int 0, .int 0, .ref (q 208), .int 0, .int 0, .ref (q 209), .ref (q 210), .ref (q 211), .ref (q 212), .ref (q 213), .int 0, .int 0, .ref (q 214), .ref (q 215), .ref (q 216), .int 0, .int 0])), ((q 201), .inl (k 1, 5340, .inl at0))]) hx hb hml hown hts hKK hP hD hS hA (p_kth l D k q (xs 1) (xs 2)) ci_X11_kth qm_L_210 ⟨Nat.le_of_ble_eq_true rfl, Nat.le_of_ble_eq_true rfl⟩ ⟨Nat.le_of_ble_eq_true rfl, Nat.le_of_ble_eq_true rfl⟩ [0, 11, 12, 16] [66, 67] rfl rfl rfl rfl rfl (by decide) 0 rfl rfl rfl hl.1 rfl (Nat.le_of_ble_eq_true rfl) dL_law_1976 (fun u_3 H locs hφ hP hD hS => ?_)
  have hP : va_P D vwCl [((q 200), .inr (12, [.ref (q 201), .ref (q 202), .int 0, .long 0, .long 1, .ref (q 203), .ref (q 204), .ref (q 205), .ref (q 206), .ref (q 207), .int 0, .int 0, .int 0, .int 0, .int 0, .int 0, .int (-1), .int (-1), .int 0, .int 0, .int 0, .ref (q 208), .int 0, .int 0, .ref (q 209), .ref (q 210), .ref (q 211), .ref (q 212), .ref (q 213), .int 0, .int 0, .ref (q 214), .ref (q 215), .ref (q 216), .int 0, .int 0])), ((q 201), .inl (k 1, 5340, .inl at0))] H := hP
  have hD : va_D A [((q 200), .inr (12, [.ref (q 201), .ref (q 202), .int 0, .long 0, .long 1, .ref (q 203), .ref (q 204), .ref (q 205), .ref (q 206), .ref (q 207), .int 0, .int 0, .int 0, .int 0, .int 0, .int 0, .int (-1), .int (-1), .int 0, .int 0, .int 0, .ref (q 208), .int 0, .int 0, .ref (q 209), .ref (q 210), .ref (q 211), .ref (q 212), .ref (q 213), .int 0, .int 0, .ref (q 214), .ref (q 215), .ref (q 216), .int 0, .int 0])), ((q 201), .inl (k 1, 5340, .inl at0))] := hD
  refine W.eq (g2 := F0 m 1979 ls [.int (-1)]) rfl ?_
  refine lv_aload_n hx hb dL_law_1979 rfl (lv_at hl 1 rfl) ?_
  refine lv_aload_n hx hb dL_law_1980 rfl (lv_at hl 3 rfl) ?_
  refine lv_iload_n hx hb dL_law_1981 rfl (lv_at hl 0 rfl) ?_
  refine lv_iconst (v := 1) hx hb dL_law_1982 (by decide) ?_
  refine lv_iadd hx hb dL_law_1983 ?_
  refine lv_topi (fun x_4 ex_4 => ?_)
  obtain rfl : x_4 = 1 := ex_4.trans (by decide +kernel)
  refine va_sld hx hb hX hbl hbA hS (xin 1 6 rfl (by decide) (by decide)) dL_law_1984 ?_
  refine W.eq (g2 := F0 m 1985 ls [.int (xs 1), .ref (q 200), .int (-1)]) rfl ?_
  refine lv_aload_n hx hb dL_law_1985 rfl (lv_at hl 3 rfl) ?_
  refine lv_iload_n hx hb dL_law_1986 rfl (lv_at hl 0 rfl) ?_
  refine lv_iconst (v := 2) hx hb dL_law_1987 (by decide) ?_
  refine lv_iadd hx hb dL_law_1988 ?_
  refine lv_topi (fun x_5 ex_5 => ?_)
  obtain rfl : x_5 = 2 := ex_5.trans (by decide +kernel)
  refine va_sld hx hb hX hbl hbA hS (xin 2 6 rfl (by decide) (by decide)) dL_law_1989 ?_
  refine W.eq (g2 := F0 m 1990 ls [.int (xs 2), .int (xs 1), .ref (q 200), .int (-1)]) rfl ?_
  refine CWV (As := [.int (xs 1), .int (xs 2)]) (rest := [.int (-1)]) (wc := [((q 200), .inr (12, [.ref (q 201), .ref (q 202), .int 0, .long 0, .long 1, .ref (q 203), .ref (q 204), .ref (q 205), .ref (q 206), .ref (q 207), .int 0, .int 0, .int 0, .int 0, .int 0, .int 0, .int (-1), .int (-1), .int 0, .int 0, .int 0, .ref (q 208), .int 0, .int 0, .ref (q 209), .ref (q 210), .ref (q 211), .ref (q 212), .ref (q 213), .int 0, .int 0, .ref (q 214), .ref (q 215), .ref (q 216), .int 0, .int 0])), ((q 201), .inl (k 1, 5340, .inl at0))]) (wr := []) hx hb hml hown hts hKK hP hD hS hA (r_kth l D k q (xs 1) (xs 2)) ci_X12_kth qm_L_213 ⟨Nat.le_of_ble_eq_true rfl, Nat.le_of_ble_eq_true rfl⟩ ⟨Nat.le_of_ble_eq_true rfl, Nat.le_of_ble_eq_true rfl⟩ [0, 1] [] rfl rfl rfl rfl rfl (by decide) 0 rfl rfl rfl hl.1 rfl (Nat.le_of_ble_eq_true rfl) dL_law_1990 (fun u_6 H locs hφ hP hD hS => ?_)
  have hP : va_P D vwCl [] H := hP
  have hD : va_D A [] := hD
  refine W.eq (g2 := F0 m 1993 ls [.int (-1), .int (-1)]) rfl ?_
  refine lv_icmp_eq (tgt := 2849) hx hb dL_law_1993 (by decide) (fun _ => ?_) (fun c => absurd (by decide) c)
  exact law_done hx hb hr hlocks hX hbl hbA hAf hS (by decide) (by decide) hl
set_option maxHeartbeats 4000000 in
set_option maxRecDepth 100000 in
theorem law_c47 {p : Program} {e : Env} {s : State} {m : MethodId} {below : List Frame} {meth : Method} {c : Code} (l : Launch) {b : Nat} {xs : Nat → Int32} {A : Nat → Prop} {D : va_G} {k : Nat → ClassId} {q : Nat → Nat} {H : Heap} {locs : List Loc} {ls : Array Slot} (C : LC p s m meth c b xs A D k q H locs ls) : W p l e room_1 s m #[Value.ref b] below meth c H locs 123 16705 (lw_Z below #[Value.ref b] s) (F0 m 1998 ls []) := by
  obtain ⟨hx, hb, hr, hml, hown, hts, hKK, hX, hbl, hbA, hA, hAf, hlocks, hP, hD, hS, hl⟩ := C
  refine lv_aload_n hx hb dL_law_1998 rfl (lv_at hl 2 rfl) ?_
  refine lv_aload_n hx hb dL_law_1999 rfl (lv_at hl 3 rfl) ?_
  refine lv_iload_n hx hb dL_law_2000 rfl (lv_at hl 0 rfl) ?_
  refine lv_iconst (v := 1) hx hb dL_law_2001 (by decide) ?_
  refine lv_iadd hx hb dL_law_2002 ?_
  refine lv_topi (fun x_1 ex_1 => ?_)
  obtain rfl : x_1 = 1 := ex_1.trans (by decide +kernel)
  refine va_sld hx hb hX hbl hbA hS (xin 1 6 rfl (by decide) (by decide)) dL_law_2003 ?_
  refine W.eq (g2 := F0 m 2004 ls [.int (xs 1), .ref (q 0)]) rfl ?_
  refine lv_aload_n hx hb dL_law_2004 rfl (lv_at hl 3 rfl) ?_
  refine lv_iload_n hx hb dL_law_2005 rfl (lv_at hl 0 rfl) ?_
  refine lv_iconst (v := 2) hx hb dL_law_2006 (by decide) ?_
  refine lv_iadd hx hb dL_law_2007 ?_
  refine lv_topi (fun x_2 ex_2 => ?_)
  obtain rfl : x_2 = 2 := ex_2.trans (by decide +kernel)
  refine va_sld hx hb hX hbl hbA hS (xin 2 6 rfl (by decide) (by decide)) dL_law_2008 ?_
  refine W.eq (g2 := F0 m 2009 ls [.int (xs 2), .int (xs 1), .ref (q 0)]) rfl ?_
  refine CWV (As := [.int (xs 1), .int (xs 2)]) (rest := []) (wc := [((q 0), .inr (11, [.ref (q 1), .ref (q 2), .ref (q 3), .ref (q 4), .ref (q 5), .ref (q 6), .ref (q 7), .ref (q 8), .ref (q 9), .ref (q 10), .ref (q 11), .int 0, .int 0, .int 0, .long 0, .long 1])), ((q 2), .inr (8, [.ref (q 20), .ref (q 21), .ref (q 22)])), ((q 20), .inr (5, [.ref (q 23), .ref (q 24), .ref (q 25), .int 0, .int 0, .int 0, .int 0])), ((q 21), .inr (0, [.ref (q 26), .ref (q 27), .ref (q 28), .ref (q 29), .int 0, .int 0]))]) (wr := [((q 200), .inr (12, [.ref (q 201), .ref (q 202), .int 0, .long 0, .long 1, .ref (q 203), .ref (q 204), .ref (q 205), .ref (q 206), .ref (q 207), .int 0, .int 0, .int 0, .int 0, .int 0, .int 0, .int (-1), .int (-1), .int 0, .int 0, .int 0, .ref (q 208), .int 0, .int 0, .ref (q 209), .ref (q 210), .ref (q 211), .ref (q 212), .ref (q 213), .int 0, .int 0, .ref (q 214), .ref (q 215), .ref (q 216), .int 0, .int 0])), ((q 201), .inl (k 1, 5340, .inl at0))]) hx hb hml hown hts hKK hP hD hS hA (p_reign l D k q (xs 1) (xs 2)) ci_X11_reign qm_L_214 ⟨Nat.le_of_ble_eq_true rfl, Nat.le_of_ble_eq_true rfl⟩ ⟨Nat.le_of_ble_eq_true rfl, Nat.le_of_ble_eq_true rfl⟩ [0, 11, 12, 16] [66, 67] rfl rfl rfl rfl rfl (by decide) 0 rfl rfl rfl hl.1 rfl (Nat.le_of_ble_eq_true rfl) dL_law_2009 (fun u_3 H locs hφ hP hD hS => ?_)
  have hP : va_P D vwCl [((q 200), .inr (12, [.ref (q 201), .ref (q 202), .int 0, .long 0, .long 1, .ref (q 203), .ref (q 204), .ref (q 205), .ref (q 206), .ref (q 207), .int 0, .int 0, .int 0, .int 0, .int 0, .int 0, .int (-1), .int (-1), .int 0, .int 0, .int 0, .ref (q 208), .int 0, .int 0, .ref (q 209), .ref (q 210), .ref (q 211), .ref (q 212), .ref (q 213), .int 0, .int 0, .ref (q 214), .ref (q 215), .ref (q 216), .int 0, .int 0])), ((q 201), .inl (k 1, 5340, .inl at0))] H := hP
  have hD : va_D A [((q 200), .inr (12, [.ref (q 201), .ref (q 202), .int 0, .long 0, .long 1, .ref (q 203), .ref (q 204), .ref (q 205), .ref (q 206), .ref (q 207), .int 0, .int 0, .int 0, .int 0, .int 0, .int 0, .int (-1), .int (-1), .int 0, .int 0, .int 0, .ref (q 208), .int 0, .int 0, .ref (q 209), .ref (q 210), .ref (q 211), .ref (q 212), .ref (q 213), .int 0, .int 0, .ref (q 214), .ref (q 215), .ref (q 216), .int 0, .int 0])), ((q 201), .inl (k 1, 5340, .inl at0))] := hD
  refine W.eq (g2 := F0 m 2012 ls [.int (-1)]) rfl ?_
  refine lv_aload_n hx hb dL_law_2012 rfl (lv_at hl 1 rfl) ?_
  refine lv_aload_n hx hb dL_law_2013 rfl (lv_at hl 3 rfl) ?_
  refine lv_iload_n hx hb dL_law_2014 rfl (lv_at hl 0 rfl) ?_
  refine lv_iconst (v := 1) hx hb dL_law_2015 (by decide) ?_
  refine lv_iadd hx hb dL_law_2016 ?_
  refine lv_topi (fun x_4 ex_4 => ?_)
  obtain rfl : x_4 = 1 := ex_4.trans (by decide +kernel)
  refine va_sld hx hb hX hbl hbA hS (xin 1 6 rfl (by decide) (by decide)) dL_law_2017 ?_
  refine W.eq (g2 := F0 m 2018 ls [.int (xs 1), .ref (q 200), .int (-1)]) rfl ?_
  refine lv_aload_n hx hb dL_law_2018 rfl (lv_at hl 3 rfl) ?_
  refine lv_iload_n hx hb dL_law_2019 rfl (lv_at hl 0 rfl) ?_
  refine lv_iconst (v := 2) hx hb dL_law_2020 (by decide) ?_
  refine lv_iadd hx hb dL_law_2021 ?_
  refine lv_topi (fun x_5 ex_5 => ?_)
  obtain rfl : x_5 = 2 := ex_5.trans (by decide +kernel)
  refine va_sld hx hb hX hbl hbA hS (xin 2 6 rfl (by decide) (by decide)) dL_law_2022 ?_
  refine W.eq (g2 := F0 m 2023 ls [.int (xs 2), .int (xs 1), .ref (q 200), .int (-1)]) rfl ?_
  refine CWV (As := [.int (xs 1), .int (xs 2)]) (rest := [.int (-1)]) (wc := [((q 200), .inr (12, [.ref (q 201), .ref (q 202), .int 0, .long 0, .long 1, .ref (q 203), .ref (q 204), .ref (q 205), .ref (q 206), .ref (q 207), .int 0, .int 0, .int 0, .int 0, .int 0, .int 0, .int (-1), .int (-1), .int 0, .int 0, .int 0, .ref (q 208), .int 0, .int 0, .ref (q 209), .ref (q 210), .ref (q 211), .ref (q 212), .ref (q 213), .int 0, .int 0, .ref (q 214), .ref (q 215), .ref (q 216), .int 0, .int 0])), ((q 201), .inl (k 1, 5340, .inl at0))]) (wr := []) hx hb hml hown hts hKK hP hD hS hA (r_reign l D k q (xs 1) (xs 2)) ci_X12_reign qm_L_217 ⟨Nat.le_of_ble_eq_true rfl, Nat.le_of_ble_eq_true rfl⟩ ⟨Nat.le_of_ble_eq_true rfl, Nat.le_of_ble_eq_true rfl⟩ [0, 1] [] rfl rfl rfl rfl rfl (by decide) 0 rfl rfl rfl hl.1 rfl (Nat.le_of_ble_eq_true rfl) dL_law_2023 (fun u_6 H locs hφ hP hD hS => ?_)
  have hP : va_P D vwCl [] H := hP
  have hD : va_D A [] := hD
  refine W.eq (g2 := F0 m 2026 ls [.int (-1), .int (-1)]) rfl ?_
  refine lv_icmp_eq (tgt := 2849) hx hb dL_law_2026 (by decide) (fun _ => ?_) (fun c => absurd (by decide) c)
  exact law_done hx hb hr hlocks hX hbl hbA hAf hS (by decide) (by decide) hl
set_option maxHeartbeats 4000000 in
set_option maxRecDepth 100000 in
theorem law_c48 {p : Program} {e : Env} {s : State} {m : MethodId} {below : List Frame} {meth : Method} {c : Code} (l : Launch) {b : Nat} {xs : Nat → Int32} {A : Nat → Prop} {D : va_G} {k : Nat → ClassId} {q : Nat → Nat} {H : Heap} {locs : List Loc} {ls : Array Slot} (C : LC p s m meth c b xs A D k q H locs ls) : W p l e room_1 s m #[Value.ref b] below meth c H locs 123 16705 (lw_Z below #[Value.ref b] s) (F0 m 2031 ls []) := by
  obtain ⟨hx, hb, hr, hml, hown, hts, hKK, hX, hbl, hbA, hA, hAf, hlocks, hP, hD, hS, hl⟩ := C
  refine lv_aload_n hx hb dL_law_2031 rfl (lv_at hl 2 rfl) ?_
  refine CWV (As := []) (rest := []) (wc := [((q 0), .inr (11, [.ref (q 1), .ref (q 2), .ref (q 3), .ref (q 4), .ref (q 5), .ref (q 6), .ref (q 7), .ref (q 8), .ref (q 9), .ref (q 10), .ref (q 11), .int 0, .int 0, .int 0, .long 0, .long 1])), ((q 2), .inr (8, [.ref (q 20), .ref (q 21), .ref (q 22)])), ((q 20), .inr (5, [.ref (q 23), .ref (q 24), .ref (q 25), .int 0, .int 0, .int 0, .int 0])), ((q 21), .inr (0, [.ref (q 26), .ref (q 27), .ref (q 28), .ref (q 29), .int 0, .int 0]))]) (wr := [((q 200), .inr (12, [.ref (q 201), .ref (q 202), .int 0, .long 0, .long 1, .ref (q 203), .ref (q 204), .ref (q 205), .ref (q 206), .ref (q 207), .int 0, .int 0, .int 0, .int 0, .int 0, .int 0, .int (-1), .int (-1), .int 0, .int 0, .int 0, .ref (q 208), .int 0, .int 0, .ref (q 209), .ref (q 210), .ref (q 211), .ref (q 212), .ref (q 213), .int 0, .int 0, .ref (q 214), .ref (q 215), .ref (q 216), .int 0, .int 0])), ((q 201), .inl (k 1, 5340, .inl at0))]) hx hb hml hown hts hKK hP hD hS hA (p_idle l D k q) ci_X11_idle qm_L_218 ⟨Nat.le_of_ble_eq_true rfl, Nat.le_of_ble_eq_true rfl⟩ ⟨Nat.le_of_ble_eq_true rfl, Nat.le_of_ble_eq_true rfl⟩ [0, 11, 12, 16] [66, 67] rfl rfl rfl rfl rfl (by decide) 0 rfl rfl rfl hl.1 rfl (Nat.le_of_ble_eq_true rfl) dL_law_2032 (fun u_1 H locs hφ hP hD hS => ?_)
  have hP : va_P D vwCl [((q 200), .inr (12, [.ref (q 201), .ref (q 202), .int 0, .long 0, .long 1, .ref (q 203), .ref (q 204), .ref (q 205), .ref (q 206), .ref (q 207), .int 0, .int 0, .int 0, .int 0, .int 0, .int 0, .int (-1), .int (-1), .int 0, .int 0, .int 0, .ref (q 208), .int 0, .int 0, .ref (q 209), .ref (q 210), .ref (q 211), .ref (q 212), .ref (q 213), .int 0, .int 0, .ref (q 214), .ref (q 215), .ref (q 216), .int 0, .int 0])), ((q 201), .inl (k 1, 5340, .inl at0))] H := hP
  have hD : va_D A [((q 200), .inr (12, [.ref (q 201), .ref (q 202), .int 0, .long 0, .long 1, .ref (q 203), .ref (q 204), .ref (q 205), .ref (q 206), .ref (q 207), .int 0, .int 0, .int 0, .int 0, .int 0, .int 0, .int (-1), .int (-1), .int 0, .int 0, .int 0, .ref (q 208), .int 0, .int 0, .ref (q 209), .ref (q 210), .ref (q 211), .ref (q 212), .ref (q 213), .int 0, .int 0, .ref (q 214), .ref (q 215), .ref (q 216), .int 0, .int 0])), ((q 201), .inl (k 1, 5340, .inl at0))] := hD
  refine W.eq (g2 := F0 m 2035 ls [.int 0]) rfl ?_
  refine lv_aload_n hx hb dL_law_2035 rfl (lv_at hl 1 rfl) ?_
  refine CWV (As := []) (rest := [.int 0]) (wc := [((q 200), .inr (12, [.ref (q 201), .ref (q 202), .int 0, .long 0, .long 1, .ref (q 203), .ref (q 204), .ref (q 205), .ref (q 206), .ref (q 207), .int 0, .int 0, .int 0, .int 0, .int 0, .int 0, .int (-1), .int (-1), .int 0, .int 0, .int 0, .ref (q 208), .int 0, .int 0, .ref (q 209), .ref (q 210), .ref (q 211), .ref (q 212), .ref (q 213), .int 0, .int 0, .ref (q 214), .ref (q 215), .ref (q 216), .int 0, .int 0])), ((q 201), .inl (k 1, 5340, .inl at0))]) (wr := []) hx hb hml hown hts hKK hP hD hS hA (r_idle l D k q) ci_X12_idle qm_L_221 ⟨Nat.le_of_ble_eq_true rfl, Nat.le_of_ble_eq_true rfl⟩ ⟨Nat.le_of_ble_eq_true rfl, Nat.le_of_ble_eq_true rfl⟩ [0, 1] [] rfl rfl rfl rfl rfl (by decide) 0 rfl rfl rfl hl.1 rfl (Nat.le_of_ble_eq_true rfl) dL_law_2036 (fun u_2 H locs hφ hP hD hS => ?_)
  have hP : va_P D vwCl [] H := hP
  have hD : va_D A [] := hD
  refine W.eq (g2 := F0 m 2039 ls [.int 0, .int 0]) rfl ?_
  refine lv_icmp_eq (tgt := 2849) hx hb dL_law_2039 (by decide) (fun _ => ?_) (fun c => absurd (by decide) c)
  exact law_done hx hb hr hlocks hX hbl hbA hAf hS (by decide) (by decide) hl
set_option maxHeartbeats 4000000 in
set_option maxRecDepth 100000 in
theorem law_c49 {p : Program} {e : Env} {s : State} {m : MethodId} {below : List Frame} {meth : Method} {c : Code} (l : Launch) {b : Nat} {xs : Nat → Int32} {A : Nat → Prop} {D : va_G} {k : Nat → ClassId} {q : Nat → Nat} {H : Heap} {locs : List Loc} {ls : Array Slot} (C : LC p s m meth c b xs A D k q H locs ls) : W p l e room_1 s m #[Value.ref b] below meth c H locs 123 16705 (lw_Z below #[Value.ref b] s) (F0 m 2044 ls []) := by
  obtain ⟨hx, hb, hr, hml, hown, hts, hKK, hX, hbl, hbA, hA, hAf, hlocks, hP, hD, hS, hl⟩ := C
  refine lv_aload_n hx hb dL_law_2044 rfl (lv_at hl 2 rfl) ?_
  refine lv_aload_n hx hb dL_law_2045 rfl (lv_at hl 3 rfl) ?_
  refine lv_iload_n hx hb dL_law_2046 rfl (lv_at hl 0 rfl) ?_
  refine lv_iconst (v := 1) hx hb dL_law_2047 (by decide) ?_
  refine lv_iadd hx hb dL_law_2048 ?_
  refine lv_topi (fun x_1 ex_1 => ?_)
  obtain rfl : x_1 = 1 := ex_1.trans (by decide +kernel)
  refine va_sld hx hb hX hbl hbA hS (xin 1 6 rfl (by decide) (by decide)) dL_law_2049 ?_
  refine W.eq (g2 := F0 m 2050 ls [.int (xs 1), .ref (q 0)]) rfl ?_
  refine lv_aload_n hx hb dL_law_2050 rfl (lv_at hl 3 rfl) ?_
  refine lv_iload_n hx hb dL_law_2051 rfl (lv_at hl 0 rfl) ?_
  refine lv_iconst (v := 2) hx hb dL_law_2052 (by decide) ?_
  refine lv_iadd hx hb dL_law_2053 ?_
  refine lv_topi (fun x_2 ex_2 => ?_)
  obtain rfl : x_2 = 2 := ex_2.trans (by decide +kernel)
  refine va_sld hx hb hX hbl hbA hS (xin 2 6 rfl (by decide) (by decide)) dL_law_2054 ?_
  refine W.eq (g2 := F0 m 2055 ls [.int (xs 2), .int (xs 1), .ref (q 0)]) rfl ?_
  refine lv_aload_n hx hb dL_law_2055 rfl (lv_at hl 3 rfl) ?_
  refine lv_iload_n hx hb dL_law_2056 rfl (lv_at hl 0 rfl) ?_
  refine lv_iconst (v := 3) hx hb dL_law_2057 (by decide) ?_
  refine lv_iadd hx hb dL_law_2058 ?_
  refine lv_topi (fun x_3 ex_3 => ?_)
  obtain rfl : x_3 = 3 := ex_3.trans (by decide +kernel)
  refine va_sld hx hb hX hbl hbA hS (xin 3 6 rfl (by decide) (by decide)) dL_law_2059 ?_
  refine W.eq (g2 := F0 m 2060 ls [.int (xs 3), .int (xs 2), .int (xs 1), .ref (q 0)]) rfl ?_
  refine CWV (As := [.int (xs 1), .int (xs 2), .int (xs 3)]) (rest := []) (wc := [((q 0), .inr (11, [.ref (q 1), .ref (q 2), .ref (q 3), .ref (q 4), .ref (q 5), .ref (q 6), .ref (q 7), .ref (q 8), .ref (q 9), .ref (q 10), .ref (q 11), .int 0, .int 0, .int 0, .long 0, .long 1])), ((q 2), .inr (8, [.ref (q 20), .ref (q 21), .ref (q 22)])), ((q 20), .inr (5, [.ref (q 23), .ref (q 24), .ref (q 25), .int 0, .int 0, .int 0, .int 0])), ((q 21), .inr (0, [.ref (q 26), .ref (q 27), .ref (q 28), .ref (q 29), .int 0, .int 0]))]) (wr := [((q 200), .inr (12, [.ref (q 201), .ref (q 202), .int 0, .long 0, .long 1, .ref (q 203), .ref (q 204), .ref (q 205), .ref (q 206), .ref (q 207), .int 0, .int 0, .int 0, .int 0, .int 0, .int 0, .int (-1), .int (-1), .int 0, .int 0, .int 0, .ref (q 208), .int 0, .int 0, .ref (q 209), .ref (q 210), .ref (q 211), .ref (q 212), .ref (q 213), .int 0, .int 0, .ref (q 214), .ref (q 215), .ref (q 216), .int 0, .int 0])), ((q 201), .inl (k 1, 5340, .inl at0))]) hx hb hml hown hts hKK hP hD hS hA (p_echo l D k q (xs 1) (xs 2) (xs 3)) ci_X11_echo qm_L_222 ⟨Nat.le_of_ble_eq_true rfl, Nat.le_of_ble_eq_true rfl⟩ ⟨Nat.le_of_ble_eq_true rfl, Nat.le_of_ble_eq_true rfl⟩ [0, 11, 12, 16] [66, 67] rfl rfl rfl rfl rfl (by decide) 0 rfl rfl rfl hl.1 rfl (Nat.le_of_ble_eq_true rfl) dL_law_2060 (fun u_4 H locs hφ hP hD hS => ?_)
  have hP : va_P D vwCl [((q 200), .inr (12, [.ref (q 201), .ref (q 202), .int 0, .long 0, .long 1, .ref (q 203), .ref (q 204), .ref (q 205), .ref (q 206), .ref (q 207), .int 0, .int 0, .int 0, .int 0, .int 0, .int 0, .int (-1), .int (-1), .int 0, .int 0, .int 0, .ref (q 208), .int 0, .int 0, .ref (q 209), .ref (q 210), .ref (q 211), .ref (q 212), .ref (q 213), .int 0, .int 0, .ref (q 214), .ref (q 215), .ref (q 216), .int 0, .int 0])), ((q 201), .inl (k 1, 5340, .inl at0))] H := hP
  have hD : va_D A [((q 200), .inr (12, [.ref (q 201), .ref (q 202), .int 0, .long 0, .long 1, .ref (q 203), .ref (q 204), .ref (q 205), .ref (q 206), .ref (q 207), .int 0, .int 0, .int 0, .int 0, .int 0, .int 0, .int (-1), .int (-1), .int 0, .int 0, .int 0, .ref (q 208), .int 0, .int 0, .ref (q 209), .ref (q 210), .ref (q 211), .ref (q 212), .ref (q 213), .int 0, .int 0, .ref (q 214), .ref (q 215), .ref (q 216), .int 0, .int 0])), ((q 201), .inl (k 1, 5340, .inl at0))] := hD
  refine W.eq (g2 := F0 m 2063 ls [.int (-1)]) rfl ?_
  refine lv_aload_n hx hb dL_law_2063 rfl (lv_at hl 1 rfl) ?_
  refine lv_aload_n hx hb dL_law_2064 rfl (lv_at hl 3 rfl) ?_
  refine lv_iload_n hx hb dL_law_2065 rfl (lv_at hl 0 rfl) ?_
  refine lv_iconst (v := 1) hx hb dL_law_2066 (by decide) ?_
  refine lv_iadd hx hb dL_law_2067 ?_
  refine lv_topi (fun x_5 ex_5 => ?_)
  obtain rfl : x_5 = 1 := ex_5.trans (by decide +kernel)
  refine va_sld hx hb hX hbl hbA hS (xin 1 6 rfl (by decide) (by decide)) dL_law_2068 ?_
  refine W.eq (g2 := F0 m 2069 ls [.int (xs 1), .ref (q 200), .int (-1)]) rfl ?_
  refine lv_aload_n hx hb dL_law_2069 rfl (lv_at hl 3 rfl) ?_
  refine lv_iload_n hx hb dL_law_2070 rfl (lv_at hl 0 rfl) ?_
  refine lv_iconst (v := 2) hx hb dL_law_2071 (by decide) ?_
  refine lv_iadd hx hb dL_law_2072 ?_
  refine lv_topi (fun x_6 ex_6 => ?_)
  obtain rfl : x_6 = 2 := ex_6.trans (by decide +kernel)
  refine va_sld hx hb hX hbl hbA hS (xin 2 6 rfl (by decide) (by decide)) dL_law_2073 ?_
  refine W.eq (g2 := F0 m 2074 ls [.int (xs 2), .int (xs 1), .ref (q 200), .int (-1)]) rfl ?_
  refine lv_aload_n hx hb dL_law_2074 rfl (lv_at hl 3 rfl) ?_
  refine lv_iload_n hx hb dL_law_2075 rfl (lv_at hl 0 rfl) ?_
  refine lv_iconst (v := 3) hx hb dL_law_2076 (by decide) ?_
  refine lv_iadd hx hb dL_law_2077 ?_
  refine lv_topi (fun x_7 ex_7 => ?_)
  obtain rfl : x_7 = 3 := ex_7.trans (by decide +kernel)
  refine va_sld hx hb hX hbl hbA hS (xin 3 6 rfl (by decide) (by decide)) dL_law_2078 ?_
  refine W.eq (g2 := F0 m 2079 ls [.int (xs 3), .int (xs 2), .int (xs 1), .ref (q 200), .int (-1)]) rfl ?_
  refine CWV (As := [.int (xs 1), .int (xs 2), .int (xs 3)]) (rest := [.int (-1)]) (wc := [((q 200), .inr (12, [.ref (q 201), .ref (q 202), .int 0, .long 0, .long 1, .ref (q 203), .ref (q 204), .ref (q 205), .ref (q 206), .ref (q 207), .int 0, .int 0, .int 0, .int 0, .int 0, .int 0, .int (-1), .int (-1), .int 0, .int 0, .int 0, .ref (q 208), .int 0, .int 0, .ref (q 209), .ref (q 210), .ref (q 211), .ref (q 212), .ref (q 213), .int 0, .int 0, .ref (q 214), .ref (q 215), .ref (q 216), .int 0, .int 0])), ((q 201), .inl (k 1, 5340, .inl at0))]) (wr := []) hx hb hml hown hts hKK hP hD hS hA (r_echo l D k q (xs 1) (xs 2) (xs 3)) ci_X12_echo qm_L_225 ⟨Nat.le_of_ble_eq_true rfl, Nat.le_of_ble_eq_true rfl⟩ ⟨Nat.le_of_ble_eq_true rfl, Nat.le_of_ble_eq_true rfl⟩ [0, 1] [] rfl rfl rfl rfl rfl (by decide) 0 rfl rfl rfl hl.1 rfl (Nat.le_of_ble_eq_true rfl) dL_law_2079 (fun u_8 H locs hφ hP hD hS => ?_)
  have hP : va_P D vwCl [] H := hP
  have hD : va_D A [] := hD
  refine W.eq (g2 := F0 m 2082 ls [.int (-1), .int (-1)]) rfl ?_
  refine lv_icmp_eq (tgt := 2849) hx hb dL_law_2082 (by decide) (fun _ => ?_) (fun c => absurd (by decide) c)
  exact law_done hx hb hr hlocks hX hbl hbA hAf hS (by decide) (by decide) hl
