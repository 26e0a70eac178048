set_option maxHeartbeats 40000000 in
set_option maxRecDepth 100000 in
theorem law_c56 {p : Program} {e : Env} {s : State} {m : MethodId} {below : List Frame} {meth : Method} {c : Code} (l : Launch) {b L : Nat} {xs : Nat → Int32} {A : Nat → Prop} {D : va_G} {k : Nat → ClassId} {sa sv : Nat} {i : Int} (C : LFX p s m meth c b L xs A D k sa sv) (hi : 0 ≤ i ∧ i + 6 ≤ (L : Int)) (hk : LAT p l e s m below meth c b A D k 2846 i) : LAT p l e s m below meth c b A D k 2322 i := by
  obtain ⟨hx, hb, hr, hml, hown, hts, hKK, hX, hbl, hbA, hA, hAf, hlocks, hSY, hRR, hL⟩ := id C
  intro a IA LA FA QA VA IB LB FB QB VB IC LC FC QC VC ID LD FD QD VD IR LR FR QR VR r H locs ls hI hRT hP hD hS hl
  have hK := hKK.1
  obtain ⟨hP, hD⟩ : PD D A ((GA k a IA LA FA QA VA r) ++ ((GB k a IB LB FB QB VB r) ++ ((GC k a IC LC FC QC VC r) ++ ((GD k a ID LD FD QD VD r) ++ ((GR k a IR LR FR QR VR r) ++ (r.tl)))))) H := ⟨hP, hD⟩
  obtain ⟨hWI, hWI_0, hWI_1, hWI_2, hrd, htr0, htr1, htr2, htr3, hrgk, hrgt, hdrc, hev, hmk, hM, hMK, hTI, hFS, htd, hlt, rgH, rgS, rgY, hdr, hit, hmmk, heq, htq, hrel⟩ := id hI
  obtain ⟨gw1, gw2, gw3, gw4, gw5, gw6, gw7, gw8, gw9, gw10, gw11⟩ := id hWI
  have hx0 := gw9
  have hYI := gw11
  obtain ⟨z1, hz1, hz1a, hz1b⟩ := i32_z (xs (iZ (i + 1)).toNatClampNeg)
  obtain ⟨z2, hz2, hz2a, hz2b⟩ := i32_z (xs (iZ (i + 2)).toNatClampNeg)
  obtain ⟨z3, hz3, hz3a, hz3b⟩ := i32_z (xs (iZ (i + 3)).toNatClampNeg)
  obtain ⟨z4, hz4, hz4a, hz4b⟩ := i32_z (xs (iZ (i + 4)).toNatClampNeg)
  obtain ⟨z5, hz5, hz5a, hz5b⟩ := i32_z (xs (iZ (i + 5)).toNatClampNeg)
  have hl : lv_has ls 4 [(3, .int (iZ i)), (2, .ref (a 106)), (1, .ref (a 0)), (0, .ref b)] := hl
  refine lv_aload_n hx hb dL_law_2322 rfl (lv_at hl 2 rfl) ?_
  refine lv_aload_n hx hb dL_law_2323 rfl (lv_at hl 3 rfl) ?_
  refine lv_iload_n hx hb dL_law_2324 rfl (lv_at hl 0 rfl) ?_
  refine lv_iconst (v := iZ 1) hx hb dL_law_2325 (by decide) ?_
  refine lv_iadd hx hb dL_law_2326 ?_
  refine lv_topi (fun x_1 ex_1 => ?_)
  obtain rfl : x_1 = iZ (i + 1) := ex_1.trans (iZ_add i 1)
  refine va_sld hx hb hX hbl hbA hS (zin (e := (i + 1)) (n := L) ⟨by omega, by omega⟩ (by omega)) dL_law_2327 ?_
  refine lv_topi (fun x_2 ex_2 => ?_)
  obtain rfl : x_2 = iZ z1 := ex_2.trans hz1
  refine lv_aload_n hx hb dL_law_2328 rfl (lv_at hl 3 rfl) ?_
  refine lv_iload_n hx hb dL_law_2329 rfl (lv_at hl 0 rfl) ?_
  refine lv_iconst (v := iZ 2) hx hb dL_law_2330 (by decide) ?_
  refine lv_iadd hx hb dL_law_2331 ?_
  refine lv_topi (fun x_3 ex_3 => ?_)
  obtain rfl : x_3 = iZ (i + 2) := ex_3.trans (iZ_add i 2)
  refine va_sld hx hb hX hbl hbA hS (zin (e := (i + 2)) (n := L) ⟨by omega, by omega⟩ (by omega)) dL_law_2332 ?_
  refine lv_topi (fun x_4 ex_4 => ?_)
  obtain rfl : x_4 = iZ z2 := ex_4.trans hz2
  refine lv_aload_n hx hb dL_law_2333 rfl (lv_at hl 3 rfl) ?_
  refine lv_iload_n hx hb dL_law_2334 rfl (lv_at hl 0 rfl) ?_
  refine lv_iconst (v := iZ 3) hx hb dL_law_2335 (by decide) ?_
  refine lv_iadd hx hb dL_law_2336 ?_
  refine lv_topi (fun x_5 ex_5 => ?_)
  obtain rfl : x_5 = iZ (i + 3) := ex_5.trans (iZ_add i 3)
  refine va_sld hx hb hX hbl hbA hS (zin (e := (i + 3)) (n := L) ⟨by omega, by omega⟩ (by omega)) dL_law_2337 ?_
  refine lv_topi (fun x_6 ex_6 => ?_)
  obtain rfl : x_6 = iZ z3 := ex_6.trans hz3
  obtain ⟨hP, hD⟩ := PD.mid4 ⟨hP, hD⟩
  refine CXM (mid := (GB k a IB LB FB QB VB r) ++ ((GC k a IC LC FC QC VC r) ++ ((GD k a ID LD FD QD VD r) ++ ((GR k a IR LR FR QR VR r))))) (c0 := 123) (s0 := 16705) (r := r) (As := [.int (iZ z1), .int (iZ z2), .int (iZ z3)]) (rest := []) hx hb hml hown hts hKK hP hD hS hA (p_priceSeen l D k (a 0) (a 1) (a 2) (a 3) (a 4) (a 5) (a 6) (a 7) (a 8) (a 9) (a 10) (a 11) (IA 0) (IA 1) (IA 2) (LA 0) (LA 1) ([.ref (a 26), .ref (a 27), .ref (a 28), .int (iZ (IA 3)), .int (iZ (IA 4)), .int (iZ (IA 5)), .int (iZ (IA 6))]) (a 23) (a 27) (a 28) (a 24) (a 25) (IA 3) (IA 4) (IA 5) (FA 0) (FA 1) z1 z2 z3 r hRT rfl rfl rfl rfl rfl (by omega) hx0 ⟨by omega, by omega⟩ (by omega) ⟨by omega, by omega⟩ ⟨by omega, by omega⟩ ⟨by omega, by omega⟩ ⟨by omega, by omega⟩) ci_X11_priceSeen qm_L_250 ⟨Nat.le_of_ble_eq_true rfl, Nat.le_of_ble_eq_true rfl⟩ ⟨Nat.le_of_ble_eq_true rfl, Nat.le_of_ble_eq_true rfl⟩ [0, 1, 17, 2, 6, 7] [3, 4, 5, 8, 9, 10, 11, 12, 13, 14, 15, 16, 18, 19, 20, 21, 22, 23, 24, 25] rfl rfl rfl (by decide +kernel) (by decide +kernel) (by decide +kernel) 0 rfl rfl rfl hl.1 rfl (Nat.le_of_ble_eq_true rfl) dL_law_2338 (fun u_7 H locs hφ hP hD hS => ?_)
  obtain ⟨r_12, I_8, L_9, F_10, G_11⟩ := u_7
  have rtr_12 : RT k r_12 := hφ
  obtain ⟨hP, hD⟩ := PD.dim4 ⟨hP, hD⟩
  obtain ⟨hP, hD⟩ := PD.by2 (is := [20, 21, 23, 0, 1, 2, 24, 25, 3, 4, 5, 6, 7, 8, 9, 10, 11, 22, 12, 13, 14, 15, 16, 17, 18, 19]) (y := (GA k a (fun i => [(IA 0), (IA 1), (I_8 1), (IA 3), (IA 4), (IA 5), (IA 6), (IA 7), (IA 8), (IA 9), (IA 10), (IA 11), (IA 12), (IA 13), (IA 14), (IA 15), (IA 16), (IA 17), (IA 18)].getD i 0) LA FA QA VA r_12)) ⟨hP, hD⟩ (by decide +kernel) rfl
  refine W.ceq (cells' := 123 + cz true r_12.b) (slots' := 16705 + sz true r_12.b) rfl rfl ?_
  refine W.eq (g2 := F0 m 2341 ls [.int (iZ (I_8 0))]) rfl ?_
  refine lv_pop hx hb dL_law_2341 rfl ?_
  refine lv_aload_n hx hb dL_law_2342 rfl (lv_at hl 1 rfl) ?_
  refine lv_aload_n hx hb dL_law_2343 rfl (lv_at hl 3 rfl) ?_
  refine lv_iload_n hx hb dL_law_2344 rfl (lv_at hl 0 rfl) ?_
  refine lv_iconst (v := iZ 1) hx hb dL_law_2345 (by decide) ?_
  refine lv_iadd hx hb dL_law_2346 ?_
  refine lv_topi (fun x_13 ex_13 => ?_)
  obtain rfl : x_13 = iZ (i + 1) := ex_13.trans (iZ_add i 1)
  refine va_sld hx hb hX hbl hbA hS (zin (e := (i + 1)) (n := L) ⟨by omega, by omega⟩ (by omega)) dL_law_2347 ?_
  refine lv_topi (fun x_14 ex_14 => ?_)
  obtain rfl : x_14 = iZ z1 := ex_14.trans hz1
  refine lv_aload_n hx hb dL_law_2348 rfl (lv_at hl 3 rfl) ?_
  refine lv_iload_n hx hb dL_law_2349 rfl (lv_at hl 0 rfl) ?_
  refine lv_iconst (v := iZ 2) hx hb dL_law_2350 (by decide) ?_
  refine lv_iadd hx hb dL_law_2351 ?_
  refine lv_topi (fun x_15 ex_15 => ?_)
  obtain rfl : x_15 = iZ (i + 2) := ex_15.trans (iZ_add i 2)
  refine va_sld hx hb hX hbl hbA hS (zin (e := (i + 2)) (n := L) ⟨by omega, by omega⟩ (by omega)) dL_law_2352 ?_
  refine lv_topi (fun x_16 ex_16 => ?_)
  obtain rfl : x_16 = iZ z2 := ex_16.trans hz2
  refine lv_aload_n hx hb dL_law_2353 rfl (lv_at hl 3 rfl) ?_
  refine lv_iload_n hx hb dL_law_2354 rfl (lv_at hl 0 rfl) ?_
  refine lv_iconst (v := iZ 3) hx hb dL_law_2355 (by decide) ?_
  refine lv_iadd hx hb dL_law_2356 ?_
  refine lv_topi (fun x_17 ex_17 => ?_)
  obtain rfl : x_17 = iZ (i + 3) := ex_17.trans (iZ_add i 3)
  refine va_sld hx hb hX hbl hbA hS (zin (e := (i + 3)) (n := L) ⟨by omega, by omega⟩ (by omega)) dL_law_2357 ?_
  refine lv_topi (fun x_18 ex_18 => ?_)
  obtain rfl : x_18 = iZ z3 := ex_18.trans hz3
  obtain ⟨hP, hD⟩ := PD.fr5 ⟨hP, hD⟩
  refine CKV2 (As := [.int (iZ z1), .int (iZ z2), .int (iZ z3)]) (rest := []) (tl := (GA k a (fun i => [(IA 0), (IA 1), (I_8 1), (IA 3), (IA 4), (IA 5), (IA 6), (IA 7), (IA 8), (IA 9), (IA 10), (IA 11), (IA 12), (IA 13), (IA 14), (IA 15), (IA 16), (IA 17), (IA 18)].getD i 0) LA FA QA VA r_12) ++ ((GB k a IB LB FB QB VB r) ++ ((GC k a IC LC FC QC VC r) ++ ((GD k a ID LD FD QD VD r) ++ (r_12.tl))))) hx hb hml hown hts hKK hP hD hS hA (q_priceSeen l D k (a 106) (a 107) (a 108) (a 109) (a 110) (a 111) (a 112) (a 113) (a 114) (a 115) (a 116) (a 117) (a 118) (a 119) (a 120) (a 121) (a 122) (IR 0) (IR 1) (IR 2) (IR 3) (IR 4) (IR 5) (IR 6) (IR 7) (IR 8) (IR 9) (IR 10) (IR 11) (IR 12) (IR 13) (IR 14) (IR 15) (IR 16) (IR 17) (LR 0) (LR 1) (FR 0) z1 z2 z3 hM ⟨by omega, by omega⟩ ⟨by omega, by omega⟩ ⟨by omega, by omega⟩) ci_X12_priceSeen qm_L_253 ⟨Nat.le_of_ble_eq_true rfl, Nat.le_of_ble_eq_true rfl⟩ (lroom _) [0, 1] [2, 3, 4, 5, 6, 7, 8, 9, 10, 11, 12, 13, 14, 15, 16] rfl rfl rfl (by decide +kernel) (by decide +kernel) (by decide +kernel) 0 rfl rfl rfl hl.1 rfl (Nat.le_of_ble_eq_true rfl) dL_law_2358 (fun u_19 H locs hφ hP hD hS => ?_)
  obtain ⟨I_20, L_21, F_22, G_23⟩ := u_19
  obtain ⟨hP, hD⟩ := PD.by2 (is := [15, 16, 0, 1, 2, 3, 4, 5, 6, 7, 8, 9, 10, 11, 12, 13, 14]) (y := (GR k a (fun i => [(I_20 1), (IR 1), (IR 2), (IR 3), (IR 4), (IR 5), (IR 6), (IR 7), (IR 8), (IR 9), (IR 10), (IR 11), (IR 12), (IR 13), (IR 14), (IR 15), (IR 16), (IR 17)].getD i 0) LR FR QR VR r_12)) ⟨hP, hD⟩ (by decide +kernel) rfl
  refine W.eq (g2 := F0 m 2361 ls [.int (iZ (I_20 0))]) rfl ?_
  refine lv_pop hx hb dL_law_2361 rfl ?_
  refine lv_goto (tgt := 2846) hx hb dL_law_2362 (by decide) ?_
  obtain ⟨hP, hD⟩ := PD.fr5 ⟨hP, hD⟩
  obtain ⟨hP, hD⟩ := PD.fr5 ⟨hP, hD⟩
  obtain ⟨hP, hD⟩ := PD.fr5 ⟨hP, hD⟩
  obtain ⟨hP, hD⟩ := PD.fr5 ⟨hP, hD⟩
  exact hk a (fun i => [(IA 0), (IA 1), (I_8 1), (IA 3), (IA 4), (IA 5), (IA 6), (IA 7), (IA 8), (IA 9), (IA 10), (IA 11), (IA 12), (IA 13), (IA 14), (IA 15), (IA 16), (IA 17), (IA 18)].getD i 0) LA FA QA VA IB LB FB QB VB IC LC FC QC VC ID LD FD QD VD (fun i => [(I_20 1), (IR 1), (IR 2), (IR 3), (IR 4), (IR 5), (IR 6), (IR 7), (IR 8), (IR 9), (IR 10), (IR 11), (IR 12), (IR 13), (IR 14), (IR 15), (IR 16), (IR 17)].getD i 0) LR FR QR VR r_12 H locs ls (show INV _ _ _ _ _ _ _ _ _ _ from ⟨hWI, hWI_0, hWI_1, hWI_2, hrd, htr0, htr1, htr2, htr3, hrgk, hrgt, hdrc, hev, hmk, hM, hMK, hTI, hFS, htd, hlt, rgH, rgS, rgY, hdr, hit, hmmk, heq, htq, hrel⟩) rtr_12 hP hD hS (lv_sub hl [0, 1, 2, 3] rfl)
set_option maxHeartbeats 40000000 in
set_option maxRecDepth 100000 in
theorem law_c57 {p : Program} {e : Env} {s : State} {m : MethodId} {below : List Frame} {meth : Method} {c : Code} (l : Launch) {b L : Nat} {xs : Nat → Int32} {A : Nat → Prop} {D : va_G} {k : Nat → ClassId} {sa sv : Nat} {i : Int} (C : LFX p s m meth c b L xs A D k sa sv) (hi : 0 ≤ i ∧ i + 6 ≤ (L : Int)) (hk : LAT p l e s m below meth c b A D k 2846 i) : LAT p l e s m below meth c b A D k 2365 i := by
  obtain ⟨hx, hb, hr, hml, hown, hts, hKK, hX, hbl, hbA, hA, hAf, hlocks, hSY, hRR, hL⟩ := id C
  intro a IA LA FA QA VA IB LB FB QB VB IC LC FC QC VC ID LD FD QD VD IR LR FR QR VR r H locs ls hI hRT hP hD hS hl
  have hK := hKK.1
  obtain ⟨hP, hD⟩ : PD D A ((GA k a IA LA FA QA VA r) ++ ((GB k a IB LB FB QB VB r) ++ ((GC k a IC LC FC QC VC r) ++ ((GD k a ID LD FD QD VD r) ++ ((GR k a IR LR FR QR VR r) ++ (r.tl)))))) H := ⟨hP, hD⟩
  obtain ⟨hWI, hWI_0, hWI_1, hWI_2, hrd, htr0, htr1, htr2, htr3, hrgk, hrgt, hdrc, hev, hmk, hM, hMK, hTI, hFS, htd, hlt, rgH, rgS, rgY, hdr, hit, hmmk, heq, htq, hrel⟩ := id hI
  obtain ⟨gw1, gw2, gw3, gw4, gw5, gw6, gw7, gw8, gw9, gw10, gw11⟩ := id hWI
  have hx0 := gw9
  have hYI := gw11
  obtain ⟨z1, hz1, hz1a, hz1b⟩ := i32_z (xs (iZ (i + 1)).toNatClampNeg)
  obtain ⟨z2, hz2, hz2a, hz2b⟩ := i32_z (xs (iZ (i + 2)).toNatClampNeg)
  obtain ⟨z3, hz3, hz3a, hz3b⟩ := i32_z (xs (iZ (i + 3)).toNatClampNeg)
  obtain ⟨z4, hz4, hz4a, hz4b⟩ := i32_z (xs (iZ (i + 4)).toNatClampNeg)
  obtain ⟨z5, hz5, hz5a, hz5b⟩ := i32_z (xs (iZ (i + 5)).toNatClampNeg)
  have hl : lv_has ls 4 [(3, .int (iZ i)), (2, .ref (a 106)), (1, .ref (a 0)), (0, .ref b)] := hl
  refine lv_aload_n hx hb dL_law_2365 rfl (lv_at hl 2 rfl) ?_
  refine lv_aload_n hx hb dL_law_2366 rfl (lv_at hl 3 rfl) ?_
  refine lv_iload_n hx hb dL_law_2367 rfl (lv_at hl 0 rfl) ?_
  refine lv_iconst (v := iZ 1) hx hb dL_law_2368 (by decide) ?_
  refine lv_iadd hx hb dL_law_2369 ?_
  refine lv_topi (fun x_1 ex_1 => ?_)
  obtain rfl : x_1 = iZ (i + 1) := ex_1.trans (iZ_add i 1)
  refine va_sld hx hb hX hbl hbA hS (zin (e := (i + 1)) (n := L) ⟨by omega, by omega⟩ (by omega)) dL_law_2370 ?_
  refine lv_topi (fun x_2 ex_2 => ?_)
  obtain rfl : x_2 = iZ z1 := ex_2.trans hz1
  refine lv_aload_n hx hb dL_law_2371 rfl (lv_at hl 3 rfl) ?_
  refine lv_iload_n hx hb dL_law_2372 rfl (lv_at hl 0 rfl) ?_
  refine lv_iconst (v := iZ 2) hx hb dL_law_2373 (by decide) ?_
  refine lv_iadd hx hb dL_law_2374 ?_
  refine lv_topi (fun x_3 ex_3 => ?_)
  obtain rfl : x_3 = iZ (i + 2) := ex_3.trans (iZ_add i 2)
  refine va_sld hx hb hX hbl hbA hS (zin (e := (i + 2)) (n := L) ⟨by omega, by omega⟩ (by omega)) dL_law_2375 ?_
  refine lv_topi (fun x_4 ex_4 => ?_)
  obtain rfl : x_4 = iZ z2 := ex_4.trans hz2
  refine lv_aload_n hx hb dL_law_2376 rfl (lv_at hl 3 rfl) ?_
  refine lv_iload_n hx hb dL_law_2377 rfl (lv_at hl 0 rfl) ?_
  refine lv_iconst (v := iZ 3) hx hb dL_law_2378 (by decide) ?_
  refine lv_iadd hx hb dL_law_2379 ?_
  refine lv_topi (fun x_5 ex_5 => ?_)
  obtain rfl : x_5 = iZ (i + 3) := ex_5.trans (iZ_add i 3)
  refine va_sld hx hb hX hbl hbA hS (zin (e := (i + 3)) (n := L) ⟨by omega, by omega⟩ (by omega)) dL_law_2380 ?_
  refine lv_topi (fun x_6 ex_6 => ?_)
  obtain rfl : x_6 = iZ z3 := ex_6.trans hz3
  refine CKV2 (As := [.int (iZ z1), .int (iZ z2), .int (iZ z3)]) (rest := []) (tl := (GB k a IB LB FB QB VB r) ++ ((GC k a IC LC FC QC VC r) ++ ((GD k a ID LD FD QD VD r) ++ ((GR k a IR LR FR QR VR r) ++ (r.tl))))) hx hb hml hown hts hKK hP hD hS hA (p_gain l D k (a 0) (a 1) (a 2) (a 3) (a 4) (a 5) (a 6) (a 7) (a 8) (a 9) (a 10) (a 11) (IA 0) (IA 1) (IA 2) (LA 0) (LA 1) ([.ref (a 26), .ref (a 27), .ref (a 28), .int (iZ (IA 3)), .int (iZ (IA 4)), .int (iZ (IA 5)), .int (iZ (IA 6))]) (a 23) (a 27) (a 28) (a 24) (a 25) (IA 3) (IA 4) (IA 5) (FA 0) (FA 1) z1 z2 z3 rfl rfl rfl rfl rfl (by omega) hx0 ⟨by omega, by omega⟩ (by omega) ⟨by omega, by omega⟩ ⟨by omega, by omega⟩ ⟨by omega, by omega⟩ ⟨by omega, by omega⟩) ci_X11_gain qm_L_254 ⟨Nat.le_of_ble_eq_true rfl, Nat.le_of_ble_eq_true rfl⟩ (lroom _) [0, 1, 2, 6, 7] [3, 4, 5, 8, 9, 10, 11, 12, 13, 14, 15, 16, 17, 18, 19, 20, 21, 22, 23, 24, 25] rfl rfl rfl (by decide +kernel) (by decide +kernel) (by decide +kernel) 0 rfl rfl rfl hl.1 rfl (Nat.le_of_ble_eq_true rfl) dL_law_2381 (fun u_7 H locs hφ hP hD hS => ?_)
  obtain ⟨I_8, L_9, F_10, G_11⟩ := u_7
  obtain ⟨hP, hD⟩ := PD.by2 (is := [21, 22, 23, 0, 1, 2, 24, 25, 3, 4, 5, 6, 7, 8, 9, 10, 11, 12, 13, 14, 15, 16, 17, 18, 19, 20]) (y := (GA k a (fun i => [(IA 0), (IA 1), (I_8 1), (IA 3), (IA 4), (IA 5), (IA 6), (IA 7), (IA 8), (IA 9), (IA 10), (IA 11), (IA 12), (IA 13), (IA 14), (IA 15), (IA 16), (IA 17), (IA 18)].getD i 0) LA FA QA VA r)) ⟨hP, hD⟩ (by decide +kernel) rfl
  refine W.eq (g2 := F0 m 2384 ls [.int (iZ (I_8 0))]) rfl ?_
  refine lv_pop hx hb dL_law_2384 rfl ?_
  refine lv_aload_n hx hb dL_law_2385 rfl (lv_at hl 1 rfl) ?_
  refine lv_aload_n hx hb dL_law_2386 rfl (lv_at hl 3 rfl) ?_
  refine lv_iload_n hx hb dL_law_2387 rfl (lv_at hl 0 rfl) ?_
  refine lv_iconst (v := iZ 1) hx hb dL_law_2388 (by decide) ?_
  refine lv_iadd hx hb dL_law_2389 ?_
  refine lv_topi (fun x_13 ex_13 => ?_)
  obtain rfl : x_13 = iZ (i + 1) := ex_13.trans (iZ_add i 1)
  refine va_sld hx hb hX hbl hbA hS (zin (e := (i + 1)) (n := L) ⟨by omega, by omega⟩ (by omega)) dL_law_2390 ?_
  refine lv_topi (fun x_14 ex_14 => ?_)
  obtain rfl : x_14 = iZ z1 := ex_14.trans hz1
  refine lv_aload_n hx hb dL_law_2391 rfl (lv_at hl 3 rfl) ?_
  refine lv_iload_n hx hb dL_law_2392 rfl (lv_at hl 0 rfl) ?_
  refine lv_iconst (v := iZ 2) hx hb dL_law_2393 (by decide) ?_
  refine lv_iadd hx hb dL_law_2394 ?_
  refine lv_topi (fun x_15 ex_15 => ?_)
  obtain rfl : x_15 = iZ (i + 2) := ex_15.trans (iZ_add i 2)
  refine va_sld hx hb hX hbl hbA hS (zin (e := (i + 2)) (n := L) ⟨by omega, by omega⟩ (by omega)) dL_law_2395 ?_
  refine lv_topi (fun x_16 ex_16 => ?_)
  obtain rfl : x_16 = iZ z2 := ex_16.trans hz2
  refine lv_aload_n hx hb dL_law_2396 rfl (lv_at hl 3 rfl) ?_
  refine lv_iload_n hx hb dL_law_2397 rfl (lv_at hl 0 rfl) ?_
  refine lv_iconst (v := iZ 3) hx hb dL_law_2398 (by decide) ?_
  refine lv_iadd hx hb dL_law_2399 ?_
  refine lv_topi (fun x_17 ex_17 => ?_)
  obtain rfl : x_17 = iZ (i + 3) := ex_17.trans (iZ_add i 3)
  refine va_sld hx hb hX hbl hbA hS (zin (e := (i + 3)) (n := L) ⟨by omega, by omega⟩ (by omega)) dL_law_2400 ?_
  refine lv_topi (fun x_18 ex_18 => ?_)
  obtain rfl : x_18 = iZ z3 := ex_18.trans hz3
  obtain ⟨hP, hD⟩ := PD.fr5 ⟨hP, hD⟩
  refine CKV2 (As := [.int (iZ z1), .int (iZ z2), .int (iZ z3)]) (rest := []) (tl := (GA k a (fun i => [(IA 0), (IA 1), (I_8 1), (IA 3), (IA 4), (IA 5), (IA 6), (IA 7), (IA 8), (IA 9), (IA 10), (IA 11), (IA 12), (IA 13), (IA 14), (IA 15), (IA 16), (IA 17), (IA 18)].getD i 0) LA FA QA VA r) ++ ((GB k a IB LB FB QB VB r) ++ ((GC k a IC LC FC QC VC r) ++ ((GD k a ID LD FD QD VD r) ++ (r.tl))))) hx hb hml hown hts hKK hP hD hS hA (q_gain l D k (a 106) (a 107) (a 108) (a 109) (a 110) (a 111) (a 112) (a 113) (a 114) (a 115) (a 116) (a 117) (a 118) (a 119) (a 120) (a 121) (a 122) (IR 0) (IR 1) (IR 2) (IR 3) (IR 4) (IR 5) (IR 6) (IR 7) (IR 8) (IR 9) (IR 10) (IR 11) (IR 12) (IR 13) (IR 14) (IR 15) (IR 16) (IR 17) (LR 0) (LR 1) (FR 0) z1 z2 z3 hM ⟨by omega, by omega⟩ ⟨by omega, by omega⟩ ⟨by omega, by omega⟩) ci_X12_gain qm_L_257 ⟨Nat.le_of_ble_eq_true rfl, Nat.le_of_ble_eq_true rfl⟩ (lroom _) [0, 1] [2, 3, 4, 5, 6, 7, 8, 9, 10, 11, 12, 13, 14, 15, 16] rfl rfl rfl (by decide +kernel) (by decide +kernel) (by decide +kernel) 0 rfl rfl rfl hl.1 rfl (Nat.le_of_ble_eq_true rfl) dL_law_2401 (fun u_19 H locs hφ hP hD hS => ?_)
  obtain ⟨I_20, L_21, F_22, G_23⟩ := u_19
  obtain ⟨hP, hD⟩ := PD.by2 (is := [15, 16, 0, 1, 2, 3, 4, 5, 6, 7, 8, 9, 10, 11, 12, 13, 14]) (y := (GR k a (fun i => [(I_20 1), (IR 1), (IR 2), (IR 3), (IR 4), (IR 5), (IR 6), (IR 7), (IR 8), (IR 9), (IR 10), (IR 11), (IR 12), (IR 13), (IR 14), (IR 15), (IR 16), (IR 17)].getD i 0) LR FR QR VR r)) ⟨hP, hD⟩ (by decide +kernel) rfl
  refine W.eq (g2 := F0 m 2404 ls [.int (iZ (I_20 0))]) rfl ?_
  refine lv_pop hx hb dL_law_2404 rfl ?_
  refine lv_goto (tgt := 2846) hx hb dL_law_2405 (by decide) ?_
  obtain ⟨hP, hD⟩ := PD.fr5 ⟨hP, hD⟩
  obtain ⟨hP, hD⟩ := PD.fr5 ⟨hP, hD⟩
  obtain ⟨hP, hD⟩ := PD.fr5 ⟨hP, hD⟩
  obtain ⟨hP, hD⟩ := PD.fr5 ⟨hP, hD⟩
  exact hk a (fun i => [(IA 0), (IA 1), (I_8 1), (IA 3), (IA 4), (IA 5), (IA 6), (IA 7), (IA 8), (IA 9), (IA 10), (IA 11), (IA 12), (IA 13), (IA 14), (IA 15), (IA 16), (IA 17), (IA 18)].getD i 0) LA FA QA VA IB LB FB QB VB IC LC FC QC VC ID LD FD QD VD (fun i => [(I_20 1), (IR 1), (IR 2), (IR 3), (IR 4), (IR 5), (IR 6), (IR 7), (IR 8), (IR 9), (IR 10), (IR 11), (IR 12), (IR 13), (IR 14), (IR 15), (IR 16), (IR 17)].getD i 0) LR FR QR VR r H locs ls (show INV _ _ _ _ _ _ _ _ _ _ from ⟨hWI, hWI_0, hWI_1, hWI_2, hrd, htr0, htr1, htr2, htr3, hrgk, hrgt, hdrc, hev, hmk, hM, hMK, hTI, hFS, htd, hlt, rgH, rgS, rgY, hdr, hit, hmmk, heq, htq, hrel⟩) hRT hP hD hS (lv_sub hl [0, 1, 2, 3] rfl)
set_option maxHeartbeats 40000000 in
set_option maxRecDepth 100000 in
theorem law_c58 {p : Program} {e : Env} {s : State} {m : MethodId} {below : List Frame} {meth : Method} {c : Code} (l : Launch) {b L : Nat} {xs : Nat → Int32} {A : Nat → Prop} {D : va_G} {k : Nat → ClassId} {sa sv : Nat} {i : Int} (C : LFX p s m meth c b L xs A D k sa sv) (hi : 0 ≤ i ∧ i + 6 ≤ (L : Int)) (hk : LAT p l e s m below meth c b A D k 2846 i) : LAT p l e s m below meth c b A D k 2408 i := by
  obtain ⟨hx, hb, hr, hml, hown, hts, hKK, hX, hbl, hbA, hA, hAf, hlocks, hSY, hRR, hL⟩ := id C
  intro a IA LA FA QA VA IB LB FB QB VB IC LC FC QC VC ID LD FD QD VD IR LR FR QR VR r H locs ls hI hRT hP hD hS hl
  have hK := hKK.1
  obtain ⟨hP, hD⟩ : PD D A ((GA k a IA LA FA QA VA r) ++ ((GB k a IB LB FB QB VB r) ++ ((GC k a IC LC FC QC VC r) ++ ((GD k a ID LD FD QD VD r) ++ ((GR k a IR LR FR QR VR r) ++ (r.tl)))))) H := ⟨hP, hD⟩
  obtain ⟨hWI, hWI_0, hWI_1, hWI_2, hrd, htr0, htr1, htr2, htr3, hrgk, hrgt, hdrc, hev, hmk, hM, hMK, hTI, hFS, htd, hlt, rgH, rgS, rgY, hdr, hit, hmmk, heq, htq, hrel⟩ := id hI
  obtain ⟨gw1, gw2, gw3, gw4, gw5, gw6, gw7, gw8, gw9, gw10, gw11⟩ := id hWI
  have hx0 := gw9
  have hYI := gw11
  obtain ⟨z1, hz1, hz1a, hz1b⟩ := i32_z (xs (iZ (i + 1)).toNatClampNeg)
  obtain ⟨z2, hz2, hz2a, hz2b⟩ := i32_z (xs (iZ (i + 2)).toNatClampNeg)
  obtain ⟨z3, hz3, hz3a, hz3b⟩ := i32_z (xs (iZ (i + 3)).toNatClampNeg)
  obtain ⟨z4, hz4, hz4a, hz4b⟩ := i32_z (xs (iZ (i + 4)).toNatClampNeg)
  obtain ⟨z5, hz5, hz5a, hz5b⟩ := i32_z (xs (iZ (i + 5)).toNatClampNeg)
  have hl : lv_has ls 4 [(3, .int (iZ i)), (2, .ref (a 106)), (1, .ref (a 0)), (0, .ref b)] := hl
  refine lv_aload_n hx hb dL_law_2408 rfl (lv_at hl 2 rfl) ?_
  refine lv_aload_n hx hb dL_law_2409 rfl (lv_at hl 3 rfl) ?_
  refine lv_iload_n hx hb dL_law_2410 rfl (lv_at hl 0 rfl) ?_
  refine lv_iconst (v := iZ 1) hx hb dL_law_2411 (by decide) ?_
  refine lv_iadd hx hb dL_law_2412 ?_
  refine lv_topi (fun x_1 ex_1 => ?_)
  obtain rfl : x_1 = iZ (i + 1) := ex_1.trans (iZ_add i 1)
  refine va_sld hx hb hX hbl hbA hS (zin (e := (i + 1)) (n := L) ⟨by omega, by omega⟩ (by omega)) dL_law_2413 ?_
  refine lv_topi (fun x_2 ex_2 => ?_)
  obtain rfl : x_2 = iZ z1 := ex_2.trans hz1
  refine lv_aload_n hx hb dL_law_2414 rfl (lv_at hl 3 rfl) ?_
  refine lv_iload_n hx hb dL_law_2415 rfl (lv_at hl 0 rfl) ?_
  refine lv_iconst (v := iZ 2) hx hb dL_law_2416 (by decide) ?_
  refine lv_iadd hx hb dL_law_2417 ?_
  refine lv_topi (fun x_3 ex_3 => ?_)
  obtain rfl : x_3 = iZ (i + 2) := ex_3.trans (iZ_add i 2)
  refine va_sld hx hb hX hbl hbA hS (zin (e := (i + 2)) (n := L) ⟨by omega, by omega⟩ (by omega)) dL_law_2418 ?_
  refine lv_topi (fun x_4 ex_4 => ?_)
  obtain rfl : x_4 = iZ z2 := ex_4.trans hz2
  refine lv_aload_n hx hb dL_law_2419 rfl (lv_at hl 3 rfl) ?_
  refine lv_iload_n hx hb dL_law_2420 rfl (lv_at hl 0 rfl) ?_
  refine lv_iconst (v := iZ 3) hx hb dL_law_2421 (by decide) ?_
  refine lv_iadd hx hb dL_law_2422 ?_
  refine lv_topi (fun x_5 ex_5 => ?_)
  obtain rfl : x_5 = iZ (i + 3) := ex_5.trans (iZ_add i 3)
  refine va_sld hx hb hX hbl hbA hS (zin (e := (i + 3)) (n := L) ⟨by omega, by omega⟩ (by omega)) dL_law_2423 ?_
  refine lv_topi (fun x_6 ex_6 => ?_)
  obtain rfl : x_6 = iZ z3 := ex_6.trans hz3
  obtain ⟨hP, hD⟩ := PD.mid4 ⟨hP, hD⟩
  refine CXM (mid := (GB k a IB LB FB QB VB r) ++ ((GC k a IC LC FC QC VC r) ++ ((GD k a ID LD FD QD VD r) ++ ((GR k a IR LR FR QR VR r))))) (c0 := 123) (s0 := 16705) (r := r) (As := [.int (iZ z1), .int (iZ z2), .int (iZ z3)]) (rest := []) hx hb hml hown hts hKK hP hD hS hA (p_hoped l D k (a 0) (a 1) (a 2) (a 3) (a 4) (a 5) (a 6) (a 7) (a 8) (a 9) (a 10) (a 11) (IA 0) (IA 1) (IA 2) (LA 0) (LA 1) ([.ref (a 26), .ref (a 27), .ref (a 28), .int (iZ (IA 3)), .int (iZ (IA 4)), .int (iZ (IA 5)), .int (iZ (IA 6))]) (a 23) (a 27) (a 28) (a 24) (a 25) (IA 3) (IA 4) (IA 5) (FA 0) (FA 1) z1 z2 z3 r hRT rfl rfl rfl rfl rfl (by omega) hx0 ⟨by omega, by omega⟩ (by omega) ⟨by omega, by omega⟩ ⟨by omega, by omega⟩ ⟨by omega, by omega⟩ ⟨by omega, by omega⟩) ci_X11_hoped qm_L_258 ⟨Nat.le_of_ble_eq_true rfl, Nat.le_of_ble_eq_true rfl⟩ ⟨Nat.le_of_ble_eq_true rfl, Nat.le_of_ble_eq_true rfl⟩ [0, 1, 17, 2, 6, 7] [3, 4, 5, 8, 9, 10, 11, 12, 13, 14, 15, 16, 18, 19, 20, 21, 22, 23, 24, 25] rfl rfl rfl (by decide +kernel) (by decide +kernel) (by decide +kernel) 0 rfl rfl rfl hl.1 rfl (Nat.le_of_ble_eq_true rfl) dL_law_2424 (fun u_7 H locs hφ hP hD hS => ?_)
  obtain ⟨r_12, I_8, L_9, F_10, G_11⟩ := u_7
  have rtr_12 : RT k r_12 := hφ
  obtain ⟨hP, hD⟩ := PD.dim4 ⟨hP, hD⟩
  obtain ⟨hP, hD⟩ := PD.by2 (is := [20, 21, 23, 0, 1, 2, 24, 25, 3, 4, 5, 6, 7, 8, 9, 10, 11, 22, 12, 13, 14, 15, 16, 17, 18, 19]) (y := (GA k a (fun i => [(IA 0), (IA 1), (I_8 1), (IA 3), (IA 4), (IA 5), (IA 6), (IA 7), (IA 8), (IA 9), (IA 10), (IA 11), (IA 12), (IA 13), (IA 14), (IA 15), (IA 16), (IA 17), (IA 18)].getD i 0) LA FA QA VA r_12)) ⟨hP, hD⟩ (by decide +kernel) rfl
  refine W.ceq (cells' := 123 + cz true r_12.b) (slots' := 16705 + sz true r_12.b) rfl rfl ?_
  refine W.eq (g2 := F0 m 2427 ls [.int (iZ (I_8 0))]) rfl ?_
  refine lv_pop hx hb dL_law_2427 rfl ?_
  refine lv_aload_n hx hb dL_law_2428 rfl (lv_at hl 1 rfl) ?_
  refine lv_aload_n hx hb dL_law_2429 rfl (lv_at hl 3 rfl) ?_
  refine lv_iload_n hx hb dL_law_2430 rfl (lv_at hl 0 rfl) ?_
  refine lv_iconst (v := iZ 1) hx hb dL_law_2431 (by decide) ?_
  refine lv_iadd hx hb dL_law_2432 ?_
  refine lv_topi (fun x_13 ex_13 => ?_)
  obtain rfl : x_13 = iZ (i + 1) := ex_13.trans (iZ_add i 1)
  refine va_sld hx hb hX hbl hbA hS (zin (e := (i + 1)) (n := L) ⟨by omega, by omega⟩ (by omega)) dL_law_2433 ?_
  refine lv_topi (fun x_14 ex_14 => ?_)
  obtain rfl : x_14 = iZ z1 := ex_14.trans hz1
  refine lv_aload_n hx hb dL_law_2434 rfl (lv_at hl 3 rfl) ?_
  refine lv_iload_n hx hb dL_law_2435 rfl (lv_at hl 0 rfl) ?_
  refine lv_iconst (v := iZ 2) hx hb dL_law_2436 (by decide) ?_
  refine lv_iadd hx hb dL_law_2437 ?_
  refine lv_topi (fun x_15 ex_15 => ?_)
  obtain rfl : x_15 = iZ (i + 2) := ex_15.trans (iZ_add i 2)
  refine va_sld hx hb hX hbl hbA hS (zin (e := (i + 2)) (n := L) ⟨by omega, by omega⟩ (by omega)) dL_law_2438 ?_
  refine lv_topi (fun x_16 ex_16 => ?_)
  obtain rfl : x_16 = iZ z2 := ex_16.trans hz2
  refine lv_aload_n hx hb dL_law_2439 rfl (lv_at hl 3 rfl) ?_
  refine lv_iload_n hx hb dL_law_2440 rfl (lv_at hl 0 rfl) ?_
  refine lv_iconst (v := iZ 3) hx hb dL_law_2441 (by decide) ?_
  refine lv_iadd hx hb dL_law_2442 ?_
  refine lv_topi (fun x_17 ex_17 => ?_)
  obtain rfl : x_17 = iZ (i + 3) := ex_17.trans (iZ_add i 3)
  refine va_sld hx hb hX hbl hbA hS (zin (e := (i + 3)) (n := L) ⟨by omega, by omega⟩ (by omega)) dL_law_2443 ?_
  refine lv_topi (fun x_18 ex_18 => ?_)
  obtain rfl : x_18 = iZ z3 := ex_18.trans hz3
  obtain ⟨hP, hD⟩ := PD.fr5 ⟨hP, hD⟩
  refine CKV2 (As := [.int (iZ z1), .int (iZ z2), .int (iZ z3)]) (rest := []) (tl := (GA k a (fun i => [(IA 0), (IA 1), (I_8 1), (IA 3), (IA 4), (IA 5), (IA 6), (IA 7), (IA 8), (IA 9), (IA 10), (IA 11), (IA 12), (IA 13), (IA 14), (IA 15), (IA 16), (IA 17), (IA 18)].getD i 0) LA FA QA VA r_12) ++ ((GB k a IB LB FB QB VB r) ++ ((GC k a IC LC FC QC VC r) ++ ((GD k a ID LD FD QD VD r) ++ (r_12.tl))))) hx hb hml hown hts hKK hP hD hS hA (q_hoped l D k (a 106) (a 107) (a 108) (a 109) (a 110) (a 111) (a 112) (a 113) (a 114) (a 115) (a 116) (a 117) (a 118) (a 119) (a 120) (a 121) (a 122) (IR 0) (IR 1) (IR 2) (IR 3) (IR 4) (IR 5) (IR 6) (IR 7) (IR 8) (IR 9) (IR 10) (IR 11) (IR 12) (IR 13) (IR 14) (IR 15) (IR 16) (IR 17) (LR 0) (LR 1) (FR 0) z1 z2 z3 hM ⟨by omega, by omega⟩ ⟨by omega, by omega⟩ ⟨by omega, by omega⟩) ci_X12_hoped qm_L_261 ⟨Nat.le_of_ble_eq_true rfl, Nat.le_of_ble_eq_true rfl⟩ (lroom _) [0, 1] [2, 3, 4, 5, 6, 7, 8, 9, 10, 11, 12, 13, 14, 15, 16] rfl rfl rfl (by decide +kernel) (by decide +kernel) (by decide +kernel) 0 rfl rfl rfl hl.1 rfl (Nat.le_of_ble_eq_true rfl) dL_law_2444 (fun u_19 H locs hφ hP hD hS => ?_)
  obtain ⟨I_20, L_21, F_22, G_23⟩ := u_19
  obtain ⟨hP, hD⟩ := PD.by2 (is := [15, 16, 0, 1, 2, 3, 4, 5, 6, 7, 8, 9, 10, 11, 12, 13, 14]) (y := (GR k a (fun i => [(I_20 1), (IR 1), (IR 2), (IR 3), (IR 4), (IR 5), (IR 6), (IR 7), (IR 8), (IR 9), (IR 10), (IR 11), (IR 12), (IR 13), (IR 14), (IR 15), (IR 16), (IR 17)].getD i 0) LR FR QR VR r_12)) ⟨hP, hD⟩ (by decide +kernel) rfl
  refine W.eq (g2 := F0 m 2447 ls [.int (iZ (I_20 0))]) rfl ?_
  refine lv_pop hx hb dL_law_2447 rfl ?_
  refine lv_goto (tgt := 2846) hx hb dL_law_2448 (by decide) ?_
  obtain ⟨hP, hD⟩ := PD.fr5 ⟨hP, hD⟩
  obtain ⟨hP, hD⟩ := PD.fr5 ⟨hP, hD⟩
  obtain ⟨hP, hD⟩ := PD.fr5 ⟨hP, hD⟩
  obtain ⟨hP, hD⟩ := PD.fr5 ⟨hP, hD⟩
  exact hk a (fun i => [(IA 0), (IA 1), (I_8 1), (IA 3), (IA 4), (IA 5), (IA 6), (IA 7), (IA 8), (IA 9), (IA 10), (IA 11), (IA 12), (IA 13), (IA 14), (IA 15), (IA 16), (IA 17), (IA 18)].getD i 0) LA FA QA VA IB LB FB QB VB IC LC FC QC VC ID LD FD QD VD (fun i => [(I_20 1), (IR 1), (IR 2), (IR 3), (IR 4), (IR 5), (IR 6), (IR 7), (IR 8), (IR 9), (IR 10), (IR 11), (IR 12), (IR 13), (IR 14), (IR 15), (IR 16), (IR 17)].getD i 0) LR FR QR VR r_12 H locs ls (show INV _ _ _ _ _ _ _ _ _ _ from ⟨hWI, hWI_0, hWI_1, hWI_2, hrd, htr0, htr1, htr2, htr3, hrgk, hrgt, hdrc, hev, hmk, hM, hMK, hTI, hFS, htd, hlt, rgH, rgS, rgY, hdr, hit, hmmk, heq, htq, hrel⟩) rtr_12 hP hD hS (lv_sub hl [0, 1, 2, 3] rfl)
set_option maxHeartbeats 40000000 in
set_option maxRecDepth 100000 in
theorem law_c59 {p : Program} {e : Env} {s : State} {m : MethodId} {below : List Frame} {meth : Method} {c : Code} (l : Launch) {b L : Nat} {xs : Nat → Int32} {A : Nat → Prop} {D : va_G} {k : Nat → ClassId} {sa sv : Nat} {i : Int} (C : LFX p s m meth c b L xs A D k sa sv) (hi : 0 ≤ i ∧ i + 6 ≤ (L : Int)) (hk : LAT p l e s m below meth c b A D k 2846 i) : LAT p l e s m below meth c b A D k 2451 i := by
  obtain ⟨hx, hb, hr, hml, hown, hts, hKK, hX, hbl, hbA, hA, hAf, hlocks, hSY, hRR, hL⟩ := id C
  intro a IA LA FA QA VA IB LB FB QB VB IC LC FC QC VC ID LD FD QD VD IR LR FR QR VR r H locs ls hI hRT hP hD hS hl
  have hK := hKK.1
  obtain ⟨hP, hD⟩ : PD D A ((GA k a IA LA FA QA VA r) ++ ((GB k a IB LB FB QB VB r) ++ ((GC k a IC LC FC QC VC r) ++ ((GD k a ID LD FD QD VD r) ++ ((GR k a IR LR FR QR VR r) ++ (r.tl)))))) H := ⟨hP, hD⟩
  obtain ⟨hWI, hWI_0, hWI_1, hWI_2, hrd, htr0, htr1, htr2, htr3, hrgk, hrgt, hdrc, hev, hmk, hM, hMK, hTI, hFS, htd, hlt, rgH, rgS, rgY, hdr, hit, hmmk, heq, htq, hrel⟩ := id hI
  obtain ⟨gw1, gw2, gw3, gw4, gw5, gw6, gw7, gw8, gw9, gw10, gw11⟩ := id hWI
  have hx0 := gw9
  have hYI := gw11
  obtain ⟨z1, hz1, hz1a, hz1b⟩ := i32_z (xs (iZ (i + 1)).toNatClampNeg)
  obtain ⟨z2, hz2, hz2a, hz2b⟩ := i32_z (xs (iZ (i + 2)).toNatClampNeg)
  obtain ⟨z3, hz3, hz3a, hz3b⟩ := i32_z (xs (iZ (i + 3)).toNatClampNeg)
  obtain ⟨z4, hz4, hz4a, hz4b⟩ := i32_z (xs (iZ (i + 4)).toNatClampNeg)
  obtain ⟨z5, hz5, hz5a, hz5b⟩ := i32_z (xs (iZ (i + 5)).toNatClampNeg)
  have hl : lv_has ls 4 [(3, .int (iZ i)), (2, .ref (a 106)), (1, .ref (a 0)), (0, .ref b)] := hl
  refine lv_aload_n hx hb dL_law_2451 rfl (lv_at hl 2 rfl) ?_
  refine lv_aload_n hx hb dL_law_2452 rfl (lv_at hl 3 rfl) ?_
  refine lv_iload_n hx hb dL_law_2453 rfl (lv_at hl 0 rfl) ?_
  refine lv_iconst (v := iZ 1) hx hb dL_law_2454 (by decide) ?_
  refine lv_iadd hx hb dL_law_2455 ?_
  refine lv_topi (fun x_1 ex_1 => ?_)
  obtain rfl : x_1 = iZ (i + 1) := ex_1.trans (iZ_add i 1)
  refine va_sld hx hb hX hbl hbA hS (zin (e := (i + 1)) (n := L) ⟨by omega, by omega⟩ (by omega)) dL_law_2456 ?_
  refine lv_topi (fun x_2 ex_2 => ?_)
  obtain rfl : x_2 = iZ z1 := ex_2.trans hz1
  refine lv_aload_n hx hb dL_law_2457 rfl (lv_at hl 3 rfl) ?_
  refine lv_iload_n hx hb dL_law_2458 rfl (lv_at hl 0 rfl) ?_
  refine lv_iconst (v := iZ 2) hx hb dL_law_2459 (by decide) ?_
  refine lv_iadd hx hb dL_law_2460 ?_
  refine lv_topi (fun x_3 ex_3 => ?_)
  obtain rfl : x_3 = iZ (i + 2) := ex_3.trans (iZ_add i 2)
  refine va_sld hx hb hX hbl hbA hS (zin (e := (i + 2)) (n := L) ⟨by omega, by omega⟩ (by omega)) dL_law_2461 ?_
  refine lv_topi (fun x_4 ex_4 => ?_)
  obtain rfl : x_4 = iZ z2 := ex_4.trans hz2
  refine CKV2 (As := [.int (iZ z1), .int (iZ z2)]) (rest := []) (tl := (GB k a IB LB FB QB VB r) ++ ((GC k a IC LC FC QC VC r) ++ ((GD k a ID LD FD QD VD r) ++ ((GR k a IR LR FR QR VR r) ++ (r.tl))))) hx hb hml hown hts hKK hP hD hS hA (p_market l D k (a 0) (a 1) (a 2) (a 3) (a 4) (a 5) (a 6) (a 7) (a 8) (a 9) (a 10) (a 11) (IA 0) (IA 1) (IA 2) (LA 0) (LA 1) ([.ref (a 26), .ref (a 27), .ref (a 28), .int (iZ (IA 3)), .int (iZ (IA 4)), .int (iZ (IA 5)), .int (iZ (IA 6))]) (a 23) (a 27) (a 28) (a 24) (a 25) (IA 3) (IA 4) (IA 5) (FA 0) (FA 1) z1 z2 rfl rfl rfl rfl rfl (by omega) hx0 ⟨by omega, by omega⟩ (by omega) ⟨by omega, by omega⟩ ⟨by omega, by omega⟩ ⟨by omega, by omega⟩) ci_X11_market qm_L_262 ⟨Nat.le_of_ble_eq_true rfl, Nat.le_of_ble_eq_true rfl⟩ (lroom _) [0, 1, 2, 6, 7] [3, 4, 5, 8, 9, 10, 11, 12, 13, 14, 15, 16, 17, 18, 19, 20, 21, 22, 23, 24, 25] rfl rfl rfl (by decide +kernel) (by decide +kernel) (by decide +kernel) 0 rfl rfl rfl hl.1 rfl (Nat.le_of_ble_eq_true rfl) dL_law_2462 (fun u_5 H locs hφ hP hD hS => ?_)
  obtain ⟨I_6, L_7, F_8, G_9⟩ := u_5
  obtain ⟨hP, hD⟩ := PD.by2 (is := [21, 22, 23, 0, 1, 2, 24, 25, 3, 4, 5, 6, 7, 8, 9, 10, 11, 12, 13, 14, 15, 16, 17, 18, 19, 20]) (y := (GA k a (fun i => [(IA 0), (IA 1), (I_6 1), (IA 3), (IA 4), (IA 5), (IA 6), (IA 7), (IA 8), (IA 9), (IA 10), (IA 11), (IA 12), (IA 13), (IA 14), (IA 15), (IA 16), (IA 17), (IA 18)].getD i 0) LA FA QA VA r)) ⟨hP, hD⟩ (by decide +kernel) rfl
  refine W.eq (g2 := F0 m 2465 ls [.int (iZ (I_6 0))]) rfl ?_
  refine lv_pop hx hb dL_law_2465 rfl ?_
  refine lv_aload_n hx hb dL_law_2466 rfl (lv_at hl 1 rfl) ?_
  refine lv_aload_n hx hb dL_law_2467 rfl (lv_at hl 3 rfl) ?_
  refine lv_iload_n hx hb dL_law_2468 rfl (lv_at hl 0 rfl) ?_
  refine lv_iconst (v := iZ 1) hx hb dL_law_2469 (by decide) ?_
  refine lv_iadd hx hb dL_law_2470 ?_
  refine lv_topi (fun x_11 ex_11 => ?_)
  obtain rfl : x_11 = iZ (i + 1) := ex_11.trans (iZ_add i 1)
  refine va_sld hx hb hX hbl hbA hS (zin (e := (i + 1)) (n := L) ⟨by omega, by omega⟩ (by omega)) dL_law_2471 ?_
  refine lv_topi (fun x_12 ex_12 => ?_)
  obtain rfl : x_12 = iZ z1 := ex_12.trans hz1
  refine lv_aload_n hx hb dL_law_2472 rfl (lv_at hl 3 rfl) ?_
  refine lv_iload_n hx hb dL_law_2473 rfl (lv_at hl 0 rfl) ?_
  refine lv_iconst (v := iZ 2) hx hb dL_law_2474 (by decide) ?_
  refine lv_iadd hx hb dL_law_2475 ?_
  refine lv_topi (fun x_13 ex_13 => ?_)
  obtain rfl : x_13 = iZ (i + 2) := ex_13.trans (iZ_add i 2)
  refine va_sld hx hb hX hbl hbA hS (zin (e := (i + 2)) (n := L) ⟨by omega, by omega⟩ (by omega)) dL_law_2476 ?_
  refine lv_topi (fun x_14 ex_14 => ?_)
  obtain rfl : x_14 = iZ z2 := ex_14.trans hz2
  obtain ⟨hP, hD⟩ := PD.fr5 ⟨hP, hD⟩
  refine CKV2 (As := [.int (iZ z1), .int (iZ z2)]) (rest := []) (tl := (GA k a (fun i => [(IA 0), (IA 1), (I_6 1), (IA 3), (IA 4), (IA 5), (IA 6), (IA 7), (IA 8), (IA 9), (IA 10), (IA 11), (IA 12), (IA 13), (IA 14), (IA 15), (IA 16), (IA 17), (IA 18)].getD i 0) LA FA QA VA r) ++ ((GB k a IB LB FB QB VB r) ++ ((GC k a IC LC FC QC VC r) ++ ((GD k a ID LD FD QD VD r) ++ (r.tl))))) hx hb hml hown hts hKK hP hD hS hA (q_market l D k (a 106) (a 107) (a 108) (a 109) (a 110) (a 111) (a 112) (a 113) (a 114) (a 115) (a 116) (a 117) (a 118) (a 119) (a 120) (a 121) (a 122) (IR 0) (IR 1) (IR 2) (IR 3) (IR 4) (IR 5) (IR 6) (IR 7) (IR 8) (IR 9) (IR 10) (IR 11) (IR 12) (IR 13) (IR 14) (IR 15) (IR 16) (IR 17) (LR 0) (LR 1) (FR 0) z1 z2 hM ⟨by omega, by omega⟩ ⟨by omega, by omega⟩) ci_X12_market qm_L_265 ⟨Nat.le_of_ble_eq_true rfl, Nat.le_of_ble_eq_true rfl⟩ (lroom _) [0, 1] [2, 3, 4, 5, 6, 7, 8, 9, 10, 11, 12, 13, 14, 15, 16] rfl rfl rfl (by decide +kernel) (by decide +kernel) (by decide +kernel) 0 rfl rfl rfl hl.1 rfl (Nat.le_of_ble_eq_true rfl) dL_law_2477 (fun u_15 H locs hφ hP hD hS => ?_)
  obtain ⟨I_16, L_17, F_18, G_19⟩ := u_15
  obtain ⟨hP, hD⟩ := PD.by2 (is := [15, 16, 0, 1, 2, 3, 4, 5, 6, 7, 8, 9, 10, 11, 12, 13, 14]) (y := (GR k a (fun i => [(I_16 1), (IR 1), (IR 2), (IR 3), (IR 4), (IR 5), (IR 6), (IR 7), (IR 8), (IR 9), (IR 10), (IR 11), (IR 12), (IR 13), (IR 14), (IR 15), (IR 16), (IR 17)].getD i 0) LR FR QR VR r)) ⟨hP, hD⟩ (by decide +kernel) rfl
  refine W.eq (g2 := F0 m 2480 ls [.int (iZ (I_16 0))]) rfl ?_
  refine lv_pop hx hb dL_law_2480 rfl ?_
  refine lv_goto (tgt := 2846) hx hb dL_law_2481 (by decide) ?_
  obtain ⟨hP, hD⟩ := PD.fr5 ⟨hP, hD⟩
  obtain ⟨hP, hD⟩ := PD.fr5 ⟨hP, hD⟩
  obtain ⟨hP, hD⟩ := PD.fr5 ⟨hP, hD⟩
  obtain ⟨hP, hD⟩ := PD.fr5 ⟨hP, hD⟩
  exact hk a (fun i => [(IA 0), (IA 1), (I_6 1), (IA 3), (IA 4), (IA 5), (IA 6), (IA 7), (IA 8), (IA 9), (IA 10), (IA 11), (IA 12), (IA 13), (IA 14), (IA 15), (IA 16), (IA 17), (IA 18)].getD i 0) LA FA QA VA IB LB FB QB VB IC LC FC QC VC ID LD FD QD VD (fun i => [(I_16 1), (IR 1), (IR 2), (IR 3), (IR 4), (IR 5), (IR 6), (IR 7), (IR 8), (IR 9), (IR 10), (IR 11), (IR 12), (IR 13), (IR 14), (IR 15), (IR 16), (IR 17)].getD i 0) LR FR QR VR r H locs ls (show INV _ _ _ _ _ _ _ _ _ _ from ⟨hWI, hWI_0, hWI_1, hWI_2, hrd, htr0, htr1, htr2, htr3, hrgk, hrgt, hdrc, hev, hmk, hM, hMK, hTI, hFS, htd, hlt, rgH, rgS, rgY, hdr, hit, hmmk, heq, htq, hrel⟩) hRT hP hD hS (lv_sub hl [0, 1, 2, 3] rfl)
set_option maxHeartbeats 40000000 in
set_option maxRecDepth 100000 in
theorem law_c60 {p : Program} {e : Env} {s : State} {m : MethodId} {below : List Frame} {meth : Method} {c : Code} (l : Launch) {b L : Nat} {xs : Nat → Int32} {A : Nat → Prop} {D : va_G} {k : Nat → ClassId} {sa sv : Nat} {i : Int} (C : LFX p s m meth c b L xs A D k sa sv) (hi : 0 ≤ i ∧ i + 6 ≤ (L : Int)) (hk : LAT p l e s m below meth c b A D k 2846 i) : LAT p l e s m below meth c b A D k 2484 i := by
  obtain ⟨hx, hb, hr, hml, hown, hts, hKK, hX, hbl, hbA, hA, hAf, hlocks, hSY, hRR, hL⟩ := id C
  intro a IA LA FA QA VA IB LB FB QB VB IC LC FC QC VC ID LD FD QD VD IR LR FR QR VR r H locs ls hI hRT hP hD hS hl
  have hK := hKK.1
  obtain ⟨hP, hD⟩ : PD D A ((GA k a IA LA FA QA VA r) ++ ((GB k a IB LB FB QB VB r) ++ ((GC k a IC LC FC QC VC r) ++ ((GD k a ID LD FD QD VD r) ++ ((GR k a IR LR FR QR VR r) ++ (r.tl)))))) H := ⟨hP, hD⟩
  obtain ⟨hWI, hWI_0, hWI_1, hWI_2, hrd, htr0, htr1, htr2, htr3, hrgk, hrgt, hdrc, hev, hmk, hM, hMK, hTI, hFS, htd, hlt, rgH, rgS, rgY, hdr, hit, hmmk, heq, htq, hrel⟩ := id hI
  obtain ⟨gw1, gw2, gw3, gw4, gw5, gw6, gw7, gw8, gw9, gw10, gw11⟩ := id hWI
  have hx0 := gw9
  have hYI := gw11
  obtain ⟨z1, hz1, hz1a, hz1b⟩ := i32_z (xs (iZ (i + 1)).toNatClampNeg)
  obtain ⟨z2, hz2, hz2a, hz2b⟩ := i32_z (xs (iZ (i + 2)).toNatClampNeg)
  obtain ⟨z3, hz3, hz3a, hz3b⟩ := i32_z (xs (iZ (i + 3)).toNatClampNeg)
  obtain ⟨z4, hz4, hz4a, hz4b⟩ := i32_z (xs (iZ (i + 4)).toNatClampNeg)
  obtain ⟨z5, hz5, hz5a, hz5b⟩ := i32_z (xs (iZ (i + 5)).toNatClampNeg)
  have hl : lv_has ls 4 [(3, .int (iZ i)), (2, .ref (a 106)), (1, .ref (a 0)), (0, .ref b)] := hl
  refine lv_aload_n hx hb dL_law_2484 rfl (lv_at hl 2 rfl) ?_
  refine lv_aload_n hx hb dL_law_2485 rfl (lv_at hl 3 rfl) ?_
  refine lv_iload_n hx hb dL_law_2486 rfl (lv_at hl 0 rfl) ?_
  refine lv_iconst (v := iZ 1) hx hb dL_law_2487 (by decide) ?_
  refine lv_iadd hx hb dL_law_2488 ?_
  refine lv_topi (fun x_1 ex_1 => ?_)
  obtain rfl : x_1 = iZ (i + 1) := ex_1.trans (iZ_add i 1)
  refine va_sld hx hb hX hbl hbA hS (zin (e := (i + 1)) (n := L) ⟨by omega, by omega⟩ (by omega)) dL_law_2489 ?_
  refine lv_topi (fun x_2 ex_2 => ?_)
  obtain rfl : x_2 = iZ z1 := ex_2.trans hz1
  refine lv_aload_n hx hb dL_law_2490 rfl (lv_at hl 3 rfl) ?_
  refine lv_iload_n hx hb dL_law_2491 rfl (lv_at hl 0 rfl) ?_
  refine lv_iconst (v := iZ 2) hx hb dL_law_2492 (by decide) ?_
  refine lv_iadd hx hb dL_law_2493 ?_
  refine lv_topi (fun x_3 ex_3 => ?_)
  obtain rfl : x_3 = iZ (i + 2) := ex_3.trans (iZ_add i 2)
  refine va_sld hx hb hX hbl hbA hS (zin (e := (i + 2)) (n := L) ⟨by omega, by omega⟩ (by omega)) dL_law_2494 ?_
  refine lv_topi (fun x_4 ex_4 => ?_)
  obtain rfl : x_4 = iZ z2 := ex_4.trans hz2
  refine lv_aload_n hx hb dL_law_2495 rfl (lv_at hl 3 rfl) ?_
  refine lv_iload_n hx hb dL_law_2496 rfl (lv_at hl 0 rfl) ?_
  refine lv_iconst (v := iZ 3) hx hb dL_law_2497 (by decide) ?_
  refine lv_iadd hx hb dL_law_2498 ?_
  refine lv_topi (fun x_5 ex_5 => ?_)
  obtain rfl : x_5 = iZ (i + 3) := ex_5.trans (iZ_add i 3)
  refine va_sld hx hb hX hbl hbA hS (zin (e := (i + 3)) (n := L) ⟨by omega, by omega⟩ (by omega)) dL_law_2499 ?_
  refine lv_topi (fun x_6 ex_6 => ?_)
  obtain rfl : x_6 = iZ z3 := ex_6.trans hz3
  refine CKV2 (As := [.int (iZ z1), .int (iZ z2), .int (iZ z3)]) (rest := []) (tl := (GB k a IB LB FB QB VB r) ++ ((GC k a IC LC FC QC VC r) ++ ((GD k a ID LD FD QD VD r) ++ ((GR k a IR LR FR QR VR r) ++ (r.tl))))) hx hb hml hown hts hKK hP hD hS hA (p_meanPrice l D k (a 0) (a 1) (a 2) (a 3) (a 4) (a 5) (a 6) (a 7) (a 8) (a 9) (a 10) (a 11) (IA 0) (IA 1) (IA 2) (LA 0) (LA 1) ([.ref (a 26), .ref (a 27), .ref (a 28), .int (iZ (IA 3)), .int (iZ (IA 4)), .int (iZ (IA 5)), .int (iZ (IA 6))]) (a 23) (a 27) (a 28) (a 24) (a 25) (IA 3) (IA 4) (IA 5) (FA 0) (FA 1) z1 z2 z3 rfl rfl rfl rfl rfl (by omega) hx0 ⟨by omega, by omega⟩ (by omega) ⟨by omega, by omega⟩ ⟨by omega, by omega⟩ ⟨by omega, by omega⟩ ⟨by omega, by omega⟩) ci_X11_meanPrice qm_L_266 ⟨Nat.le_of_ble_eq_true rfl, Nat.le_of_ble_eq_true rfl⟩ (lroom _) [0, 1, 2, 6, 7] [3, 4, 5, 8, 9, 10, 11, 12, 13, 14, 15, 16, 17, 18, 19, 20, 21, 22, 23, 24, 25] rfl rfl rfl (by decide +kernel) (by decide +kernel) (by decide +kernel) 0 rfl rfl rfl hl.1 rfl (Nat.le_of_ble_eq_true rfl) dL_law_2500 (fun u_7 H locs hφ hP hD hS => ?_)
  obtain ⟨I_8, L_9, F_10, G_11⟩ := u_7
  obtain ⟨hP, hD⟩ := PD.by2 (is := [21, 22, 23, 0, 1, 2, 24, 25, 3, 4, 5, 6, 7, 8, 9, 10, 11, 12, 13, 14, 15, 16, 17, 18, 19, 20]) (y := (GA k a (fun i => [(IA 0), (IA 1), (I_8 1), (IA 3), (IA 4), (IA 5), (IA 6), (IA 7), (IA 8), (IA 9), (IA 10), (IA 11), (IA 12), (IA 13), (IA 14), (IA 15), (IA 16), (IA 17), (IA 18)].getD i 0) (fun i => [(L_9 1), (L_9 2)].getD i 0) FA QA VA r)) ⟨hP, hD⟩ (by decide +kernel) rfl
  refine W.eq (g2 := F0 m 2503 ls [.int (iZ (I_8 0))]) rfl ?_
  refine lv_pop hx hb dL_law_2503 rfl ?_
  refine lv_aload_n hx hb dL_law_2504 rfl (lv_at hl 1 rfl) ?_
  refine lv_aload_n hx hb dL_law_2505 rfl (lv_at hl 3 rfl) ?_
  refine lv_iload_n hx hb dL_law_2506 rfl (lv_at hl 0 rfl) ?_
  refine lv_iconst (v := iZ 1) hx hb dL_law_2507 (by decide) ?_
  refine lv_iadd hx hb dL_law_2508 ?_
  refine lv_topi (fun x_13 ex_13 => ?_)
  obtain rfl : x_13 = iZ (i + 1) := ex_13.trans (iZ_add i 1)
  refine va_sld hx hb hX hbl hbA hS (zin (e := (i + 1)) (n := L) ⟨by omega, by omega⟩ (by omega)) dL_law_2509 ?_
  refine lv_topi (fun x_14 ex_14 => ?_)
  obtain rfl : x_14 = iZ z1 := ex_14.trans hz1
  refine lv_aload_n hx hb dL_law_2510 rfl (lv_at hl 3 rfl) ?_
  refine lv_iload_n hx hb dL_law_2511 rfl (lv_at hl 0 rfl) ?_
  refine lv_iconst (v := iZ 2) hx hb dL_law_2512 (by decide) ?_
  refine lv_iadd hx hb dL_law_2513 ?_
  refine lv_topi (fun x_15 ex_15 => ?_)
  obtain rfl : x_15 = iZ (i + 2) := ex_15.trans (iZ_add i 2)
  refine va_sld hx hb hX hbl hbA hS (zin (e := (i + 2)) (n := L) ⟨by omega, by omega⟩ (by omega)) dL_law_2514 ?_
  refine lv_topi (fun x_16 ex_16 => ?_)
  obtain rfl : x_16 = iZ z2 := ex_16.trans hz2
  refine lv_aload_n hx hb dL_law_2515 rfl (lv_at hl 3 rfl) ?_
  refine lv_iload_n hx hb dL_law_2516 rfl (lv_at hl 0 rfl) ?_
  refine lv_iconst (v := iZ 3) hx hb dL_law_2517 (by decide) ?_
  refine lv_iadd hx hb dL_law_2518 ?_
  refine lv_topi (fun x_17 ex_17 => ?_)
  obtain rfl : x_17 = iZ (i + 3) := ex_17.trans (iZ_add i 3)
  refine va_sld hx hb hX hbl hbA hS (zin (e := (i + 3)) (n := L) ⟨by omega, by omega⟩ (by omega)) dL_law_2519 ?_
  refine lv_topi (fun x_18 ex_18 => ?_)
  obtain rfl : x_18 = iZ z3 := ex_18.trans hz3
  obtain ⟨hP, hD⟩ := PD.fr5 ⟨hP, hD⟩
  refine CKV2 (As := [.int (iZ z1), .int (iZ z2), .int (iZ z3)]) (rest := []) (tl := (GA k a (fun i => [(IA 0), (IA 1), (I_8 1), (IA 3), (IA 4), (IA 5), (IA 6), (IA 7), (IA 8), (IA 9), (IA 10), (IA 11), (IA 12), (IA 13), (IA 14), (IA 15), (IA 16), (IA 17), (IA 18)].getD i 0) (fun i => [(L_9 1), (L_9 2)].getD i 0) FA QA VA r) ++ ((GB k a IB LB FB QB VB r) ++ ((GC k a IC LC FC QC VC r) ++ ((GD k a ID LD FD QD VD r) ++ (r.tl))))) hx hb hml hown hts hKK hP hD hS hA (q_meanPrice l D k (a 106) (a 107) (a 108) (a 109) (a 110) (a 111) (a 112) (a 113) (a 114) (a 115) (a 116) (a 117) (a 118) (a 119) (a 120) (a 121) (a 122) (IR 0) (IR 1) (IR 2) (IR 3) (IR 4) (IR 5) (IR 6) (IR 7) (IR 8) (IR 9) (IR 10) (IR 11) (IR 12) (IR 13) (IR 14) (IR 15) (IR 16) (IR 17) (LR 0) (LR 1) (FR 0) z1 z2 z3 hM ⟨by omega, by omega⟩ ⟨by omega, by omega⟩ ⟨by omega, by omega⟩) ci_X12_meanPrice qm_L_269 ⟨Nat.le_of_ble_eq_true rfl, Nat.le_of_ble_eq_true rfl⟩ (lroom _) [0, 1] [2, 3, 4, 5, 6, 7, 8, 9, 10, 11, 12, 13, 14, 15, 16] rfl rfl rfl (by decide +kernel) (by decide +kernel) (by decide +kernel) 0 rfl rfl rfl hl.1 rfl (Nat.le_of_ble_eq_true rfl) dL_law_2520 (fun u_19 H locs hφ hP hD hS => ?_)
  obtain ⟨I_20, L_21, F_22, G_23⟩ := u_19
  obtain ⟨hP, hD⟩ := PD.by2 (is := [15, 16, 0, 1, 2, 3, 4, 5, 6, 7, 8, 9, 10, 11, 12, 13, 14]) (y := (GR k a (fun i => [(I_20 1), (IR 1), (IR 2), (IR 3), (IR 4), (IR 5), (IR 6), (IR 7), (IR 8), (IR 9), (IR 10), (IR 11), (IR 12), (IR 13), (IR 14), (IR 15), (IR 16), (IR 17)].getD i 0) (fun i => [(L_21 1), (L_21 2)].getD i 0) FR QR VR r)) ⟨hP, hD⟩ (by decide +kernel) rfl
  refine W.eq (g2 := F0 m 2523 ls [.int (iZ (I_20 0))]) rfl ?_
  refine lv_pop hx hb dL_law_2523 rfl ?_
  refine lv_goto (tgt := 2846) hx hb dL_law_2524 (by decide) ?_
  obtain ⟨hP, hD⟩ := PD.fr5 ⟨hP, hD⟩
  obtain ⟨hP, hD⟩ := PD.fr5 ⟨hP, hD⟩
  obtain ⟨hP, hD⟩ := PD.fr5 ⟨hP, hD⟩
  obtain ⟨hP, hD⟩ := PD.fr5 ⟨hP, hD⟩
  exact hk a (fun i => [(IA 0), (IA 1), (I_8 1), (IA 3), (IA 4), (IA 5), (IA 6), (IA 7), (IA 8), (IA 9), (IA 10), (IA 11), (IA 12), (IA 13), (IA 14), (IA 15), (IA 16), (IA 17), (IA 18)].getD i 0) (fun i => [(L_9 1), (L_9 2)].getD i 0) FA QA VA IB LB FB QB VB IC LC FC QC VC ID LD FD QD VD (fun i => [(I_20 1), (IR 1), (IR 2), (IR 3), (IR 4), (IR 5), (IR 6), (IR 7), (IR 8), (IR 9), (IR 10), (IR 11), (IR 12), (IR 13), (IR 14), (IR 15), (IR 16), (IR 17)].getD i 0) (fun i => [(L_21 1), (L_21 2)].getD i 0) FR QR VR r H locs ls (show INV _ _ _ _ _ _ _ _ _ _ from ⟨hWI, hWI_0, hWI_1, hWI_2, hrd, htr0, htr1, htr2, htr3, hrgk, hrgt, hdrc, hev, hmk, hM, hMK, hTI, hFS, htd, hlt, rgH, rgS, rgY, hdr, hit, hmmk, heq, htq, hrel⟩) hRT hP hD hS (lv_sub hl [0, 1, 2, 3] rfl)
set_option maxHeartbeats 40000000 in
set_option maxRecDepth 100000 in
theorem law_c61 {p : Program} {e : Env} {s : State} {m : MethodId} {below : List Frame} {meth : Method} {c : Code} (l : Launch) {b L : Nat} {xs : Nat → Int32} {A : Nat → Prop} {D : va_G} {k : Nat → ClassId} {sa sv : Nat} {i : Int} (C : LFX p s m meth c b L xs A D k sa sv) (hi : 0 ≤ i ∧ i + 6 ≤ (L : Int)) (hk : LAT p l e s m below meth c b A D k 2846 i) : LAT p l e s m below meth c b A D k 2527 i := by
  obtain ⟨hx, hb, hr, hml, hown, hts, hKK, hX, hbl, hbA, hA, hAf, hlocks, hSY, hRR, hL⟩ := id C
  intro a IA LA FA QA VA IB LB FB QB VB IC LC FC QC VC ID LD FD QD VD IR LR FR QR VR r H locs ls hI hRT hP hD hS hl
  have hK := hKK.1
  obtain ⟨hP, hD⟩ : PD D A ((GA k a IA LA FA QA VA r) ++ ((GB k a IB LB FB QB VB r) ++ ((GC k a IC LC FC QC VC r) ++ ((GD k a ID LD FD QD VD r) ++ ((GR k a IR LR FR QR VR r) ++ (r.tl)))))) H := ⟨hP, hD⟩
  obtain ⟨hWI, hWI_0, hWI_1, hWI_2, hrd, htr0, htr1, htr2, htr3, hrgk, hrgt, hdrc, hev, hmk, hM, hMK, hTI, hFS, htd, hlt, rgH, rgS, rgY, hdr, hit, hmmk, heq, htq, hrel⟩ := id hI
  obtain ⟨gw1, gw2, gw3, gw4, gw5, gw6, gw7, gw8, gw9, gw10, gw11⟩ := id hWI
  have hx0 := gw9
  have hYI := gw11
  obtain ⟨z1, hz1, hz1a, hz1b⟩ := i32_z (xs (iZ (i + 1)).toNatClampNeg)
  obtain ⟨z2, hz2, hz2a, hz2b⟩ := i32_z (xs (iZ (i + 2)).toNatClampNeg)
  obtain ⟨z3, hz3, hz3a, hz3b⟩ := i32_z (xs (iZ (i + 3)).toNatClampNeg)
  obtain ⟨z4, hz4, hz4a, hz4b⟩ := i32_z (xs (iZ (i + 4)).toNatClampNeg)
  obtain ⟨z5, hz5, hz5a, hz5b⟩ := i32_z (xs (iZ (i + 5)).toNatClampNeg)
  have hl : lv_has ls 4 [(3, .int (iZ i)), (2, .ref (a 106)), (1, .ref (a 0)), (0, .ref b)] := hl
  refine lv_aload_n hx hb dL_law_2527 rfl (lv_at hl 2 rfl) ?_
  refine lv_aload_n hx hb dL_law_2528 rfl (lv_at hl 3 rfl) ?_
  refine lv_iload_n hx hb dL_law_2529 rfl (lv_at hl 0 rfl) ?_
  refine lv_iconst (v := iZ 1) hx hb dL_law_2530 (by decide) ?_
  refine lv_iadd hx hb dL_law_2531 ?_
  refine lv_topi (fun x_1 ex_1 => ?_)
  obtain rfl : x_1 = iZ (i + 1) := ex_1.trans (iZ_add i 1)
  refine va_sld hx hb hX hbl hbA hS (zin (e := (i + 1)) (n := L) ⟨by omega, by omega⟩ (by omega)) dL_law_2532 ?_
  refine lv_topi (fun x_2 ex_2 => ?_)
  obtain rfl : x_2 = iZ z1 := ex_2.trans hz1
  obtain ⟨hP, hD⟩ := PD.mid4 ⟨hP, hD⟩
  refine CXM (mid := (GB k a IB LB FB QB VB r) ++ ((GC k a IC LC FC QC VC r) ++ ((GD k a ID LD FD QD VD r) ++ ((GR k a IR LR FR QR VR r))))) (c0 := 123) (s0 := 16705) (r := r) (As := [.int (iZ z1)]) (rest := []) hx hb hml hown hts hKK hP hD hS hA (p_pass l D k (a 0) (a 1) (a 2) (a 3) (a 4) (a 5) (a 6) (a 7) (a 8) (a 9) (a 10) (a 11) (IA 0) (IA 1) (IA 2) (LA 0) (LA 1) ([.ref (a 26), .ref (a 27), .ref (a 28), .int (iZ (IA 3)), .int (iZ (IA 4)), .int (iZ (IA 5)), .int (iZ (IA 6))]) (a 23) (a 27) (a 28) (a 24) (a 25) (IA 3) (IA 4) (IA 5) (FA 0) (FA 1) (a 105) (a 29) (a 30) (a 31) (a 32) (a 101) (a 102) (a 103) (a 104) (a 33) (a 34) (a 35) (a 36) (a 37) (IA 12) (IA 13) (IA 14) (IA 15) (IA 16) (IA 17) (IA 18) (IA 9) (IA 10) (IA 11) (IA 7) (IA 8) (FA 11) (FA 12) (FA 13) (FA 2) (FA 3) (FA 4) (FA 5) (FA 15) (FA 14) (FA 6) (FA 7) (FA 8) (FA 9) (FA 10) z1 r hRT rfl rfl rfl rfl rfl (by omega) hx0 ⟨by omega, by omega⟩ (by omega) ⟨by omega, by omega⟩ ⟨by omega, by omega⟩ hrgk hrgt ⟨by omega, by omega⟩ ⟨by omega, by omega⟩ gw10 ⟨by omega, by omega⟩ hYI (by omega) ⟨by omega, by omega⟩) ci_X11_pass qm_L_270 ⟨Nat.le_of_ble_eq_true rfl, Nat.le_of_ble_eq_true rfl⟩ ⟨Nat.le_of_ble_eq_true rfl, Nat.le_of_ble_eq_true rfl⟩ [0, 23, 1, 3, 8, 9, 10, 11, 17, 18, 19, 20, 21, 22, 24, 2, 6, 7, 4, 12, 13, 14, 15, 16] [5, 25] rfl rfl rfl (by decide +kernel) (by decide +kernel) (by decide +kernel) 0 rfl rfl rfl hl.1 rfl (Nat.le_of_ble_eq_true rfl) dL_law_2533 (fun u_3 H locs hφ hP hD hS => ?_)
  obtain ⟨r_8, I_4, L_5, F_6, G_7⟩ := u_3
  obtain ⟨p_9, p_10, p_11, p_12, p_13, p_14, rtr_8⟩ : (0 ≤ (I_4 2) ∧ (I_4 2) ≤ 400) ∧ (0 ≤ (I_4 3) ∧ (I_4 3) ≤ 20) ∧ (0 ≤ (I_4 4) ∧ (I_4 4) ≤ 65535) ∧ (rgI (F_6 0) (-1) 420 6) ∧ (rgI (F_6 1) (-1) 5 6) ∧ (rgI (F_6 4) 0 ((IA 3) - 1) (I_4 3)) ∧ (RT k r_8) := hφ
  obtain ⟨hP, hD⟩ := PD.dim4 ⟨hP, hD⟩
  obtain ⟨hP, hD⟩ := PD.by2 (is := [2, 4, 17, 5, 20, 0, 18, 19, 6, 7, 8, 9, 21, 22, 23, 24, 25, 10, 11, 12, 13, 14, 15, 3, 16, 1]) (y := (GA k a (fun i => [(IA 0), (IA 1), (I_4 1), (IA 3), (IA 4), (IA 5), (IA 6), (I_4 2), (I_4 3), (IA 9), (IA 10), (IA 11), (I_4 4), (I_4 5), (I_4 6), (I_4 7), (I_4 8), (I_4 9), (I_4 10)].getD i 0) LA (fun i => [(FA 0), (FA 1), (F_6 3), (F_6 4), (F_6 5), (F_6 6), (FA 6), (FA 7), (FA 8), (FA 9), (FA 10), (F_6 0), (F_6 1), (F_6 2), (F_6 8), (F_6 7), (FA 16)].getD i (fun _ => 0)) QA VA r_8)) ⟨hP, hD⟩ (by decide +kernel) rfl
  refine W.ceq (cells' := 123 + cz true r_8.b) (slots' := 16705 + sz true r_8.b) rfl rfl ?_
  refine W.eq (g2 := F0 m 2536 ls [.int (iZ (I_4 0))]) rfl ?_
  refine lv_pop hx hb dL_law_2536 rfl ?_
  refine lv_aload_n hx hb dL_law_2537 rfl (lv_at hl 1 rfl) ?_
  refine lv_aload_n hx hb dL_law_2538 rfl (lv_at hl 3 rfl) ?_
  refine lv_iload_n hx hb dL_law_2539 rfl (lv_at hl 0 rfl) ?_
  refine lv_iconst (v := iZ 1) hx hb dL_law_2540 (by decide) ?_
  refine lv_iadd hx hb dL_law_2541 ?_
  refine lv_topi (fun x_15 ex_15 => ?_)
  obtain rfl : x_15 = iZ (i + 1) := ex_15.trans (iZ_add i 1)
  refine va_sld hx hb hX hbl hbA hS (zin (e := (i + 1)) (n := L) ⟨by omega, by omega⟩ (by omega)) dL_law_2542 ?_
  refine lv_topi (fun x_16 ex_16 => ?_)
  obtain rfl : x_16 = iZ z1 := ex_16.trans hz1
  obtain ⟨hP, hD⟩ := PD.fr5 ⟨hP, hD⟩
  refine CKV2 (As := [.int (iZ z1)]) (rest := []) (tl := (GA k a (fun i => [(IA 0), (IA 1), (I_4 1), (IA 3), (IA 4), (IA 5), (IA 6), (I_4 2), (I_4 3), (IA 9), (IA 10), (IA 11), (I_4 4), (I_4 5), (I_4 6), (I_4 7), (I_4 8), (I_4 9), (I_4 10)].getD i 0) LA (fun i => [(FA 0), (FA 1), (F_6 3), (F_6 4), (F_6 5), (F_6 6), (FA 6), (FA 7), (FA 8), (FA 9), (FA 10), (F_6 0), (F_6 1), (F_6 2), (F_6 8), (F_6 7), (FA 16)].getD i (fun _ => 0)) QA VA r_8) ++ ((GB k a IB LB FB QB VB r) ++ ((GC k a IC LC FC QC VC r) ++ ((GD k a ID LD FD QD VD r) ++ (r_8.tl))))) hx hb hml hown hts hKK hP hD hS hA (q_pass l D k (a 106) (a 107) (a 108) (a 109) (a 110) (a 111) (a 112) (a 113) (a 114) (a 115) (a 116) (a 117) (a 118) (a 119) (a 120) (a 121) (a 122) (IR 0) (IR 1) (IR 2) (IR 3) (IR 4) (IR 5) (IR 6) (IR 7) (IR 8) (IR 9) (IR 10) (IR 11) (IR 12) (IR 13) (IR 14) (IR 15) (IR 16) (IR 17) (LR 0) (LR 1) (FR 0) z1 hM ⟨by omega, by omega⟩) ci_X12_pass qm_L_273 ⟨Nat.le_of_ble_eq_true rfl, Nat.le_of_ble_eq_true rfl⟩ (lroom _) [0, 1] [2, 3, 4, 5, 6, 7, 8, 9, 10, 11, 12, 13, 14, 15, 16] rfl rfl rfl (by decide +kernel) (by decide +kernel) (by decide +kernel) 0 rfl rfl rfl hl.1 rfl (Nat.le_of_ble_eq_true rfl) dL_law_2543 (fun u_17 H locs hφ hP hD hS => ?_)
  obtain ⟨I_18, L_19, F_20, G_21⟩ := u_17
  obtain ⟨p_23, p_24⟩ : (M0 (F_20 0)) ∧ (CSlowWorldsLaw_law_r2344_c4e851.FR (F_20 0) (FR 0)) := hφ
  obtain ⟨hP, hD⟩ := PD.by2 (is := [15, 16, 0, 1, 2, 3, 4, 5, 6, 7, 8, 9, 10, 11, 12, 13, 14]) (y := (GR k a (fun i => [(I_18 1), (IR 1), (IR 2), (IR 3), (IR 4), (IR 5), (IR 6), (IR 7), (IR 8), (IR 9), (IR 10), (IR 11), (IR 12), (IR 13), (IR 14), (IR 15), (IR 16), (IR 17)].getD i 0) LR (fun i => [(F_20 0), (FR 1), (FR 2), (FR 3), (FR 4), (FR 5), (FR 6), (FR 7), (FR 8), (FR 9), (FR 10), (FR 11), (FR 12), (FR 13)].getD i (fun _ => 0)) QR VR r_8)) ⟨hP, hD⟩ (by decide +kernel) rfl
  refine W.eq (g2 := F0 m 2546 ls [.int (iZ (I_18 0))]) rfl ?_
  refine lv_pop hx hb dL_law_2546 rfl ?_
  refine lv_goto (tgt := 2846) hx hb dL_law_2547 (by decide) ?_
  obtain ⟨hP, hD⟩ := PD.fr5 ⟨hP, hD⟩
  obtain ⟨hP, hD⟩ := PD.fr5 ⟨hP, hD⟩
  obtain ⟨hP, hD⟩ := PD.fr5 ⟨hP, hD⟩
  obtain ⟨hP, hD⟩ := PD.fr5 ⟨hP, hD⟩
  exact hk a (fun i => [(IA 0), (IA 1), (I_4 1), (IA 3), (IA 4), (IA 5), (IA 6), (I_4 2), (I_4 3), (IA 9), (IA 10), (IA 11), (I_4 4), (I_4 5), (I_4 6), (I_4 7), (I_4 8), (I_4 9), (I_4 10)].getD i 0) LA (fun i => [(FA 0), (FA 1), (F_6 3), (F_6 4), (F_6 5), (F_6 6), (FA 6), (FA 7), (FA 8), (FA 9), (FA 10), (F_6 0), (F_6 1), (F_6 2), (F_6 8), (F_6 7), (FA 16)].getD i (fun _ => 0)) QA VA IB LB FB QB VB IC LC FC QC VC ID LD FD QD VD (fun i => [(I_18 1), (IR 1), (IR 2), (IR 3), (IR 4), (IR 5), (IR 6), (IR 7), (IR 8), (IR 9), (IR 10), (IR 11), (IR 12), (IR 13), (IR 14), (IR 15), (IR 16), (IR 17)].getD i 0) LR (fun i => [(F_20 0), (FR 1), (FR 2), (FR 3), (FR 4), (FR 5), (FR 6), (FR 7), (FR 8), (FR 9), (FR 10), (FR 11), (FR 12), (FR 13)].getD i (fun _ => 0)) QR VR r_8 H locs ls (show INV _ _ _ _ _ _ _ _ _ _ from ⟨(show WI (IA 3) (IA 4) (IA 5) (I_4 2) (I_4 3) (IA 9) (IA 10) (IA 11) (FA 0) (F_6 4) (FA 6) (FA 7) (FA 9) (FA 10) from (by first | assumption | exact ⟨by omega, by omega, by omega, by omega, by omega, by omega, by omega, by omega, by first | exact gw9 | assumption, by first | exact gw10 | assumption, by first | exact gw11 | assumption⟩)), hWI_0, hWI_1, hWI_2, hrd, htr0, htr1, htr2, htr3, (show rgI (F_6 0) (-1) 420 6 from (by assumption)), (show rgI (F_6 1) (-1) 5 6 from (by assumption)), (show 0 ≤ (I_4 4) ∧ (I_4 4) ≤ 65535 from (by omega)), hev, hmk, (show M0 (F_20 0) from (by assumption)), (show MK (F_20 0) (IR 17) from MK.keep (by omega) hMK (fun e h1 h2 => p_24.1 e (Or.inl (by omega)))), hTI, hFS, htd, hlt, rgH, rgS, rgY, hdr, hit, hmmk, heq, htq, hrel⟩) rtr_8 hP hD hS (lv_sub hl [0, 1, 2, 3] rfl)
set_option maxHeartbeats 40000000 in
set_option maxRecDepth 100000 in
theorem law_c62 {p : Program} {e : Env} {s : State} {m : MethodId} {below : List Frame} {meth : Method} {c : Code} (l : Launch) {b L : Nat} {xs : Nat → Int32} {A : Nat → Prop} {D : va_G} {k : Nat → ClassId} {sa sv : Nat} {i : Int} (C : LFX p s m meth c b L xs A D k sa sv) (hi : 0 ≤ i ∧ i + 6 ≤ (L : Int)) (hk : LAT p l e s m below meth c b A D k 2846 i) : LAT p l e s m below meth c b A D k 2550 i := by
  obtain ⟨hx, hb, hr, hml, hown, hts, hKK, hX, hbl, hbA, hA, hAf, hlocks, hSY, hRR, hL⟩ := id C
  intro a IA LA FA QA VA IB LB FB QB VB IC LC FC QC VC ID LD FD QD VD IR LR FR QR VR r H locs ls hI hRT hP hD hS hl
  have hK := hKK.1
  obtain ⟨hP, hD⟩ : PD D A ((GA k a IA LA FA QA VA r) ++ ((GB k a IB LB FB QB VB r) ++ ((GC k a IC LC FC QC VC r) ++ ((GD k a ID LD FD QD VD r) ++ ((GR k a IR LR FR QR VR r) ++ (r.tl)))))) H := ⟨hP, hD⟩
  obtain ⟨hWI, hWI_0, hWI_1, hWI_2, hrd, htr0, htr1, htr2, htr3, hrgk, hrgt, hdrc, hev, hmk, hM, hMK, hTI, hFS, htd, hlt, rgH, rgS, rgY, hdr, hit, hmmk, heq, htq, hrel⟩ := id hI
  obtain ⟨gw1, gw2, gw3, gw4, gw5, gw6, gw7, gw8, gw9, gw10, gw11⟩ := id hWI
  have hx0 := gw9
  have hYI := gw11
  obtain ⟨z1, hz1, hz1a, hz1b⟩ := i32_z (xs (iZ (i + 1)).toNatClampNeg)
  obtain ⟨z2, hz2, hz2a, hz2b⟩ := i32_z (xs (iZ (i + 2)).toNatClampNeg)
  obtain ⟨z3, hz3, hz3a, hz3b⟩ := i32_z (xs (iZ (i + 3)).toNatClampNeg)
  obtain ⟨z4, hz4, hz4a, hz4b⟩ := i32_z (xs (iZ (i + 4)).toNatClampNeg)
  obtain ⟨z5, hz5, hz5a, hz5b⟩ := i32_z (xs (iZ (i + 5)).toNatClampNeg)
  have hl : lv_has ls 4 [(3, .int (iZ i)), (2, .ref (a 106)), (1, .ref (a 0)), (0, .ref b)] := hl
  refine lv_aload_n hx hb dL_law_2550 rfl (lv_at hl 2 rfl) ?_
  refine lv_aload_n hx hb dL_law_2551 rfl (lv_at hl 3 rfl) ?_
  refine lv_iload_n hx hb dL_law_2552 rfl (lv_at hl 0 rfl) ?_
  refine lv_iconst (v := iZ 1) hx hb dL_law_2553 (by decide) ?_
  refine lv_iadd hx hb dL_law_2554 ?_
  refine lv_topi (fun x_1 ex_1 => ?_)
  obtain rfl : x_1 = iZ (i + 1) := ex_1.trans (iZ_add i 1)
  refine va_sld hx hb hX hbl hbA hS (zin (e := (i + 1)) (n := L) ⟨by omega, by omega⟩ (by omega)) dL_law_2555 ?_
  refine lv_topi (fun x_2 ex_2 => ?_)
  obtain rfl : x_2 = iZ z1 := ex_2.trans hz1
  refine lv_aload_n hx hb dL_law_2556 rfl (lv_at hl 3 rfl) ?_
  refine lv_iload_n hx hb dL_law_2557 rfl (lv_at hl 0 rfl) ?_
  refine lv_iconst (v := iZ 2) hx hb dL_law_2558 (by decide) ?_
  refine lv_iadd hx hb dL_law_2559 ?_
  refine lv_topi (fun x_3 ex_3 => ?_)
  obtain rfl : x_3 = iZ (i + 2) := ex_3.trans (iZ_add i 2)
  refine va_sld hx hb hX hbl hbA hS (zin (e := (i + 2)) (n := L) ⟨by omega, by omega⟩ (by omega)) dL_law_2560 ?_
  refine lv_topi (fun x_4 ex_4 => ?_)
  obtain rfl : x_4 = iZ z2 := ex_4.trans hz2
  refine CKV2 (As := [.int (iZ z1), .int (iZ z2)]) (rest := []) (tl := (GB k a IB LB FB QB VB r) ++ ((GC k a IC LC FC QC VC r) ++ ((GD k a ID LD FD QD VD r) ++ ((GR k a IR LR FR QR VR r) ++ (r.tl))))) hx hb hml hown hts hKK hP hD hS hA (p_wore l D k (a 0) (a 1) (a 2) (a 3) (a 4) (a 5) (a 6) (a 7) (a 8) (a 9) (a 10) (a 11) (IA 0) (IA 1) (IA 2) (LA 0) (LA 1) ([.ref (a 26), .ref (a 27), .ref (a 28), .int (iZ (IA 3)), .int (iZ (IA 4)), .int (iZ (IA 5)), .int (iZ (IA 6))]) (a 23) (a 27) (a 28) (a 24) (a 25) (IA 3) (IA 4) (IA 5) (FA 0) (FA 1) (a 29) (a 30) (a 31) (a 32) (IA 7) (IA 8) (FA 2) (FA 3) (FA 4) (FA 5) z1 z2 rfl rfl rfl rfl rfl (by omega) hx0 ⟨by omega, by omega⟩ (by omega) ⟨by omega, by omega⟩ ⟨by omega, by omega⟩ ⟨by omega, by omega⟩ gw10 ⟨by omega, by omega⟩ ⟨by omega, by omega⟩) ci_X11_wore qm_L_274 ⟨Nat.le_of_ble_eq_true rfl, Nat.le_of_ble_eq_true rfl⟩ (lroom _) [0, 1, 3, 8, 9, 10, 11, 2, 6, 7] [4, 5, 12, 13, 14, 15, 16, 17, 18, 19, 20, 21, 22, 23, 24, 25] rfl rfl rfl (by decide +kernel) (by decide +kernel) (by decide +kernel) 0 rfl rfl rfl hl.1 rfl (Nat.le_of_ble_eq_true rfl) dL_law_2561 (fun u_5 H locs hφ hP hD hS => ?_)
  obtain ⟨I_6, L_7, F_8, G_9⟩ := u_5
  obtain ⟨hP, hD⟩ := PD.by2 (is := [16, 17, 23, 18, 0, 1, 24, 25, 19, 20, 21, 22, 2, 3, 4, 5, 6, 7, 8, 9, 10, 11, 12, 13, 14, 15]) (y := (GA k a (fun i => [(IA 0), (IA 1), (I_6 1), (IA 3), (IA 4), (IA 5), (IA 6), (IA 7), (IA 8), (IA 9), (IA 10), (IA 11), (IA 12), (IA 13), (IA 14), (IA 15), (IA 16), (IA 17), (IA 18)].getD i 0) LA FA QA VA r)) ⟨hP, hD⟩ (by decide +kernel) rfl
  refine W.eq (g2 := F0 m 2564 ls [.int (iZ (I_6 0))]) rfl ?_
  refine lv_pop hx hb dL_law_2564 rfl ?_
  refine lv_aload_n hx hb dL_law_2565 rfl (lv_at hl 1 rfl) ?_
  refine lv_aload_n hx hb dL_law_2566 rfl (lv_at hl 3 rfl) ?_
  refine lv_iload_n hx hb dL_law_2567 rfl (lv_at hl 0 rfl) ?_
  refine lv_iconst (v := iZ 1) hx hb dL_law_2568 (by decide) ?_
  refine lv_iadd hx hb dL_law_2569 ?_
  refine lv_topi (fun x_11 ex_11 => ?_)
  obtain rfl : x_11 = iZ (i + 1) := ex_11.trans (iZ_add i 1)
  refine va_sld hx hb hX hbl hbA hS (zin (e := (i + 1)) (n := L) ⟨by omega, by omega⟩ (by omega)) dL_law_2570 ?_
  refine lv_topi (fun x_12 ex_12 => ?_)
  obtain rfl : x_12 = iZ z1 := ex_12.trans hz1
  refine lv_aload_n hx hb dL_law_2571 rfl (lv_at hl 3 rfl) ?_
  refine lv_iload_n hx hb dL_law_2572 rfl (lv_at hl 0 rfl) ?_
  refine lv_iconst (v := iZ 2) hx hb dL_law_2573 (by decide) ?_
  refine lv_iadd hx hb dL_law_2574 ?_
  refine lv_topi (fun x_13 ex_13 => ?_)
  obtain rfl : x_13 = iZ (i + 2) := ex_13.trans (iZ_add i 2)
  refine va_sld hx hb hX hbl hbA hS (zin (e := (i + 2)) (n := L) ⟨by omega, by omega⟩ (by omega)) dL_law_2575 ?_
  refine lv_topi (fun x_14 ex_14 => ?_)
  obtain rfl : x_14 = iZ z2 := ex_14.trans hz2
  obtain ⟨hP, hD⟩ := PD.fr5 ⟨hP, hD⟩
  refine CKV2 (As := [.int (iZ z1), .int (iZ z2)]) (rest := []) (tl := (GA k a (fun i => [(IA 0), (IA 1), (I_6 1), (IA 3), (IA 4), (IA 5), (IA 6), (IA 7), (IA 8), (IA 9), (IA 10), (IA 11), (IA 12), (IA 13), (IA 14), (IA 15), (IA 16), (IA 17), (IA 18)].getD i 0) LA FA QA VA r) ++ ((GB k a IB LB FB QB VB r) ++ ((GC k a IC LC FC QC VC r) ++ ((GD k a ID LD FD QD VD r) ++ (r.tl))))) hx hb hml hown hts hKK hP hD hS hA (q_wore l D k (a 106) (a 107) (a 108) (a 109) (a 110) (a 111) (a 112) (a 113) (a 114) (a 115) (a 116) (a 117) (a 118) (a 119) (a 120) (a 121) (a 122) (IR 0) (IR 1) (IR 2) (IR 3) (IR 4) (IR 5) (IR 6) (IR 7) (IR 8) (IR 9) (IR 10) (IR 11) (IR 12) (IR 13) (IR 14) (IR 15) (IR 16) (IR 17) (LR 0) (LR 1) (FR 0) z1 z2 hM ⟨by omega, by omega⟩ ⟨by omega, by omega⟩) ci_X12_wore qm_L_277 ⟨Nat.le_of_ble_eq_true rfl, Nat.le_of_ble_eq_true rfl⟩ (lroom _) [0, 1] [2, 3, 4, 5, 6, 7, 8, 9, 10, 11, 12, 13, 14, 15, 16] rfl rfl rfl (by decide +kernel) (by decide +kernel) (by decide +kernel) 0 rfl rfl rfl hl.1 rfl (Nat.le_of_ble_eq_true rfl) dL_law_2576 (fun u_15 H locs hφ hP hD hS => ?_)
  obtain ⟨I_16, L_17, F_18, G_19⟩ := u_15
  obtain ⟨hP, hD⟩ := PD.by2 (is := [15, 16, 0, 1, 2, 3, 4, 5, 6, 7, 8, 9, 10, 11, 12, 13, 14]) (y := (GR k a (fun i => [(I_16 1), (IR 1), (IR 2), (IR 3), (IR 4), (IR 5), (IR 6), (IR 7), (IR 8), (IR 9), (IR 10), (IR 11), (IR 12), (IR 13), (IR 14), (IR 15), (IR 16), (IR 17)].getD i 0) LR FR QR VR r)) ⟨hP, hD⟩ (by decide +kernel) rfl
  refine W.eq (g2 := F0 m 2579 ls [.int (iZ (I_16 0))]) rfl ?_
  refine lv_pop hx hb dL_law_2579 rfl ?_
  refine lv_goto (tgt := 2846) hx hb dL_law_2580 (by decide) ?_
  obtain ⟨hP, hD⟩ := PD.fr5 ⟨hP, hD⟩
  obtain ⟨hP, hD⟩ := PD.fr5 ⟨hP, hD⟩
  obtain ⟨hP, hD⟩ := PD.fr5 ⟨hP, hD⟩
  obtain ⟨hP, hD⟩ := PD.fr5 ⟨hP, hD⟩
  exact hk a (fun i => [(IA 0), (IA 1), (I_6 1), (IA 3), (IA 4), (IA 5), (IA 6), (IA 7), (IA 8), (IA 9), (IA 10), (IA 11), (IA 12), (IA 13), (IA 14), (IA 15), (IA 16), (IA 17), (IA 18)].getD i 0) LA FA QA VA IB LB FB QB VB IC LC FC QC VC ID LD FD QD VD (fun i => [(I_16 1), (IR 1), (IR 2), (IR 3), (IR 4), (IR 5), (IR 6), (IR 7), (IR 8), (IR 9), (IR 10), (IR 11), (IR 12), (IR 13), (IR 14), (IR 15), (IR 16), (IR 17)].getD i 0) LR FR QR VR r H locs ls (show INV _ _ _ _ _ _ _ _ _ _ from ⟨hWI, hWI_0, hWI_1, hWI_2, hrd, htr0, htr1, htr2, htr3, hrgk, hrgt, hdrc, hev, hmk, hM, hMK, hTI, hFS, htd, hlt, rgH, rgS, rgY, hdr, hit, hmmk, heq, htq, hrel⟩) hRT hP hD hS (lv_sub hl [0, 1, 2, 3] rfl)
set_option maxHeartbeats 40000000 in
set_option maxRecDepth 100000 in
theorem law_c63 {p : Program} {e : Env} {s : State} {m : MethodId} {below : List Frame} {meth : Method} {c : Code} (l : Launch) {b L : Nat} {xs : Nat → Int32} {A : Nat → Prop} {D : va_G} {k : Nat → ClassId} {sa sv : Nat} {i : Int} (C : LFX p s m meth c b L xs A D k sa sv) (hi : 0 ≤ i ∧ i + 6 ≤ (L : Int)) (hk : LAT p l e s m below meth c b A D k 2846 i) : LAT p l e s m below meth c b A D k 2583 i := by
  obtain ⟨hx, hb, hr, hml, hown, hts, hKK, hX, hbl, hbA, hA, hAf, hlocks, hSY, hRR, hL⟩ := id C
  intro a IA LA FA QA VA IB LB FB QB VB IC LC FC QC VC ID LD FD QD VD IR LR FR QR VR r H locs ls hI hRT hP hD hS hl
  have hK := hKK.1
  obtain ⟨hP, hD⟩ : PD D A ((GA k a IA LA FA QA VA r) ++ ((GB k a IB LB FB QB VB r) ++ ((GC k a IC LC FC QC VC r) ++ ((GD k a ID LD FD QD VD r) ++ ((GR k a IR LR FR QR VR r) ++ (r.tl)))))) H := ⟨hP, hD⟩
  obtain ⟨hWI, hWI_0, hWI_1, hWI_2, hrd, htr0, htr1, htr2, htr3, hrgk, hrgt, hdrc, hev, hmk, hM, hMK, hTI, hFS, htd, hlt, rgH, rgS, rgY, hdr, hit, hmmk, heq, htq, hrel⟩ := id hI
  obtain ⟨gw1, gw2, gw3, gw4, gw5, gw6, gw7, gw8, gw9, gw10, gw11⟩ := id hWI
  have hx0 := gw9
  have hYI := gw11
  obtain ⟨z1, hz1, hz1a, hz1b⟩ := i32_z (xs (iZ (i + 1)).toNatClampNeg)
  obtain ⟨z2, hz2, hz2a, hz2b⟩ := i32_z (xs (iZ (i + 2)).toNatClampNeg)
  obtain ⟨z3, hz3, hz3a, hz3b⟩ := i32_z (xs (iZ (i + 3)).toNatClampNeg)
  obtain ⟨z4, hz4, hz4a, hz4b⟩ := i32_z (xs (iZ (i + 4)).toNatClampNeg)
  obtain ⟨z5, hz5, hz5a, hz5b⟩ := i32_z (xs (iZ (i + 5)).toNatClampNeg)
  have hl : lv_has ls 4 [(3, .int (iZ i)), (2, .ref (a 106)), (1, .ref (a 0)), (0, .ref b)] := hl
  refine lv_aload_n hx hb dL_law_2583 rfl (lv_at hl 2 rfl) ?_
  refine lv_aload_n hx hb dL_law_2584 rfl (lv_at hl 3 rfl) ?_
  refine lv_iload_n hx hb dL_law_2585 rfl (lv_at hl 0 rfl) ?_
  refine lv_iconst (v := iZ 1) hx hb dL_law_2586 (by decide) ?_
  refine lv_iadd hx hb dL_law_2587 ?_
  refine lv_topi (fun x_1 ex_1 => ?_)
  obtain rfl : x_1 = iZ (i + 1) := ex_1.trans (iZ_add i 1)
  refine va_sld hx hb hX hbl hbA hS (zin (e := (i + 1)) (n := L) ⟨by omega, by omega⟩ (by omega)) dL_law_2588 ?_
  refine lv_topi (fun x_2 ex_2 => ?_)
  obtain rfl : x_2 = iZ z1 := ex_2.trans hz1
  refine lv_aload_n hx hb dL_law_2589 rfl (lv_at hl 3 rfl) ?_
  refine lv_iload_n hx hb dL_law_2590 rfl (lv_at hl 0 rfl) ?_
  refine lv_iconst (v := iZ 2) hx hb dL_law_2591 (by decide) ?_
  refine lv_iadd hx hb dL_law_2592 ?_
  refine lv_topi (fun x_3 ex_3 => ?_)
  obtain rfl : x_3 = iZ (i + 2) := ex_3.trans (iZ_add i 2)
  refine va_sld hx hb hX hbl hbA hS (zin (e := (i + 2)) (n := L) ⟨by omega, by omega⟩ (by omega)) dL_law_2593 ?_
  refine lv_topi (fun x_4 ex_4 => ?_)
  obtain rfl : x_4 = iZ z2 := ex_4.trans hz2
  refine CKV2 (As := [.int (iZ z1), .int (iZ z2)]) (rest := []) (tl := (GB k a IB LB FB QB VB r) ++ ((GC k a IC LC FC QC VC r) ++ ((GD k a ID LD FD QD VD r) ++ ((GR k a IR LR FR QR VR r) ++ (r.tl))))) hx hb hml hown hts hKK hP hD hS hA (p_wear l D k (a 0) (a 1) (a 2) (a 3) (a 4) (a 5) (a 6) (a 7) (a 8) (a 9) (a 10) (a 11) (IA 0) (IA 1) (IA 2) (LA 0) (LA 1) ([.ref (a 26), .ref (a 27), .ref (a 28), .int (iZ (IA 3)), .int (iZ (IA 4)), .int (iZ (IA 5)), .int (iZ (IA 6))]) (a 23) (a 27) (a 28) (a 24) (a 25) (IA 3) (IA 4) (IA 5) (FA 0) (FA 1) (a 29) (a 30) (a 31) (a 32) (IA 7) (IA 8) (FA 2) (FA 3) (FA 4) (FA 5) z1 z2 rfl rfl rfl rfl rfl (by omega) hx0 ⟨by omega, by omega⟩ (by omega) ⟨by omega, by omega⟩ ⟨by omega, by omega⟩ ⟨by omega, by omega⟩ gw10 ⟨by omega, by omega⟩ ⟨by omega, by omega⟩) ci_X11_wear qm_L_278 ⟨Nat.le_of_ble_eq_true rfl, Nat.le_of_ble_eq_true rfl⟩ (lroom _) [0, 1, 3, 8, 9, 10, 11, 2, 6, 7] [4, 5, 12, 13, 14, 15, 16, 17, 18, 19, 20, 21, 22, 23, 24, 25] rfl rfl rfl (by decide +kernel) (by decide +kernel) (by decide +kernel) 0 rfl rfl rfl hl.1 rfl (Nat.le_of_ble_eq_true rfl) dL_law_2594 (fun u_5 H locs hφ hP hD hS => ?_)
  obtain ⟨I_6, L_7, F_8, G_9⟩ := u_5
  obtain ⟨hP, hD⟩ := PD.by2 (is := [16, 17, 23, 18, 0, 1, 24, 25, 19, 20, 21, 22, 2, 3, 4, 5, 6, 7, 8, 9, 10, 11, 12, 13, 14, 15]) (y := (GA k a (fun i => [(IA 0), (IA 1), (I_6 1), (IA 3), (IA 4), (IA 5), (IA 6), (IA 7), (IA 8), (IA 9), (IA 10), (IA 11), (IA 12), (IA 13), (IA 14), (IA 15), (IA 16), (IA 17), (IA 18)].getD i 0) LA (fun i => [(FA 0), (FA 1), (F_8 0), (FA 3), (FA 4), (FA 5), (FA 6), (FA 7), (FA 8), (FA 9), (FA 10), (FA 11), (FA 12), (FA 13), (FA 14), (FA 15), (FA 16)].getD i (fun _ => 0)) QA VA r)) ⟨hP, hD⟩ (by decide +kernel) rfl
  refine W.eq (g2 := F0 m 2597 ls [.int (iZ (I_6 0))]) rfl ?_
  refine lv_pop hx hb dL_law_2597 rfl ?_
  refine lv_aload_n hx hb dL_law_2598 rfl (lv_at hl 1 rfl) ?_
  refine lv_aload_n hx hb dL_law_2599 rfl (lv_at hl 3 rfl) ?_
  refine lv_iload_n hx hb dL_law_2600 rfl (lv_at hl 0 rfl) ?_
  refine lv_iconst (v := iZ 1) hx hb dL_law_2601 (by decide) ?_
  refine lv_iadd hx hb dL_law_2602 ?_
  refine lv_topi (fun x_11 ex_11 => ?_)
  obtain rfl : x_11 = iZ (i + 1) := ex_11.trans (iZ_add i 1)
  refine va_sld hx hb hX hbl hbA hS (zin (e := (i + 1)) (n := L) ⟨by omega, by omega⟩ (by omega)) dL_law_2603 ?_
  refine lv_topi (fun x_12 ex_12 => ?_)
  obtain rfl : x_12 = iZ z1 := ex_12.trans hz1
  refine lv_aload_n hx hb dL_law_2604 rfl (lv_at hl 3 rfl) ?_
  refine lv_iload_n hx hb dL_law_2605 rfl (lv_at hl 0 rfl) ?_
  refine lv_iconst (v := iZ 2) hx hb dL_law_2606 (by decide) ?_
  refine lv_iadd hx hb dL_law_2607 ?_
  refine lv_topi (fun x_13 ex_13 => ?_)
  obtain rfl : x_13 = iZ (i + 2) := ex_13.trans (iZ_add i 2)
  refine va_sld hx hb hX hbl hbA hS (zin (e := (i + 2)) (n := L) ⟨by omega, by omega⟩ (by omega)) dL_law_2608 ?_
  refine lv_topi (fun x_14 ex_14 => ?_)
  obtain rfl : x_14 = iZ z2 := ex_14.trans hz2
  obtain ⟨hP, hD⟩ := PD.fr5 ⟨hP, hD⟩
  refine CKV2 (As := [.int (iZ z1), .int (iZ z2)]) (rest := []) (tl := (GA k a (fun i => [(IA 0), (IA 1), (I_6 1), (IA 3), (IA 4), (IA 5), (IA 6), (IA 7), (IA 8), (IA 9), (IA 10), (IA 11), (IA 12), (IA 13), (IA 14), (IA 15), (IA 16), (IA 17), (IA 18)].getD i 0) LA (fun i => [(FA 0), (FA 1), (F_8 0), (FA 3), (FA 4), (FA 5), (FA 6), (FA 7), (FA 8), (FA 9), (FA 10), (FA 11), (FA 12), (FA 13), (FA 14), (FA 15), (FA 16)].getD i (fun _ => 0)) QA VA r) ++ ((GB k a IB LB FB QB VB r) ++ ((GC k a IC LC FC QC VC r) ++ ((GD k a ID LD FD QD VD r) ++ (r.tl))))) hx hb hml hown hts hKK hP hD hS hA (q_wear l D k (a 106) (a 107) (a 108) (a 109) (a 110) (a 111) (a 112) (a 113) (a 114) (a 115) (a 116) (a 117) (a 118) (a 119) (a 120) (a 121) (a 122) (IR 0) (IR 1) (IR 2) (IR 3) (IR 4) (IR 5) (IR 6) (IR 7) (IR 8) (IR 9) (IR 10) (IR 11) (IR 12) (IR 13) (IR 14) (IR 15) (IR 16) (IR 17) (LR 0) (LR 1) (FR 0) z1 z2 hM ⟨by omega, by omega⟩ ⟨by omega, by omega⟩) ci_X12_wear qm_L_282 ⟨Nat.le_of_ble_eq_true rfl, Nat.le_of_ble_eq_true rfl⟩ (lroom _) [0, 1] [2, 3, 4, 5, 6, 7, 8, 9, 10, 11, 12, 13, 14, 15, 16] rfl rfl rfl (by decide +kernel) (by decide +kernel) (by decide +kernel) 0 rfl rfl rfl hl.1 rfl (Nat.le_of_ble_eq_true rfl) dL_law_2609 (fun u_15 H locs hφ hP hD hS => ?_)
  obtain ⟨I_16, L_17, F_18, G_19⟩ := u_15
  obtain ⟨p_21, p_22⟩ : (M0 (F_18 0)) ∧ (CSlowWorldsLaw_law_r2344_c4e851.FR (F_18 0) (FR 0)) := hφ
  obtain ⟨hP, hD⟩ := PD.by2 (is := [15, 16, 0, 1, 2, 3, 4, 5, 6, 7, 8, 9, 10, 11, 12, 13, 14]) (y := (GR k a (fun i => [(I_16 1), (IR 1), (IR 2), (IR 3), (IR 4), (IR 5), (IR 6), (IR 7), (IR 8), (IR 9), (IR 10), (IR 11), (IR 12), (IR 13), (IR 14), (IR 15), (IR 16), (IR 17)].getD i 0) LR (fun i => [(F_18 0), (FR 1), (FR 2), (FR 3), (FR 4), (FR 5), (FR 6), (FR 7), (FR 8), (FR 9), (FR 10), (FR 11), (FR 12), (FR 13)].getD i (fun _ => 0)) QR VR r)) ⟨hP, hD⟩ (by decide +kernel) rfl
  refine W.eq (g2 := F0 m 2612 ls [.int (iZ (I_16 0))]) rfl ?_
  refine lv_pop hx hb dL_law_2612 rfl ?_
  refine lv_goto (tgt := 2846) hx hb dL_law_2613 (by decide) ?_
  obtain ⟨hP, hD⟩ := PD.fr5 ⟨hP, hD⟩
  obtain ⟨hP, hD⟩ := PD.fr5 ⟨hP, hD⟩
  obtain ⟨hP, hD⟩ := PD.fr5 ⟨hP, hD⟩
  obtain ⟨hP, hD⟩ := PD.fr5 ⟨hP, hD⟩
  exact hk a (fun i => [(IA 0), (IA 1), (I_6 1), (IA 3), (IA 4), (IA 5), (IA 6), (IA 7), (IA 8), (IA 9), (IA 10), (IA 11), (IA 12), (IA 13), (IA 14), (IA 15), (IA 16), (IA 17), (IA 18)].getD i 0) LA (fun i => [(FA 0), (FA 1), (F_8 0), (FA 3), (FA 4), (FA 5), (FA 6), (FA 7), (FA 8), (FA 9), (FA 10), (FA 11), (FA 12), (FA 13), (FA 14), (FA 15), (FA 16)].getD i (fun _ => 0)) QA VA IB LB FB QB VB IC LC FC QC VC ID LD FD QD VD (fun i => [(I_16 1), (IR 1), (IR 2), (IR 3), (IR 4), (IR 5), (IR 6), (IR 7), (IR 8), (IR 9), (IR 10), (IR 11), (IR 12), (IR 13), (IR 14), (IR 15), (IR 16), (IR 17)].getD i 0) LR (fun i => [(F_18 0), (FR 1), (FR 2), (FR 3), (FR 4), (FR 5), (FR 6), (FR 7), (FR 8), (FR 9), (FR 10), (FR 11), (FR 12), (FR 13)].getD i (fun _ => 0)) QR VR r H locs ls (show INV _ _ _ _ _ _ _ _ _ _ from ⟨hWI, hWI_0, hWI_1, hWI_2, hrd, htr0, htr1, htr2, htr3, hrgk, hrgt, hdrc, hev, hmk, (show M0 (F_18 0) from (by assumption)), (show MK (F_18 0) (IR 17) from MK.keep (by omega) hMK (fun e h1 h2 => p_22.1 e (Or.inl (by omega)))), hTI, hFS, htd, hlt, rgH, rgS, rgY, hdr, hit, hmmk, heq, htq, hrel⟩) hRT hP hD hS (lv_sub hl [0, 1, 2, 3] rfl)
