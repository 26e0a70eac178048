set_option maxHeartbeats 40000000 in
set_option maxRecDepth 100000 in
theorem law_c48 {p : Program} {e : Env} {s : State} {m : MethodId} {below : List Frame} {meth : Method} {c : Code} (l : Launch) {b L : Nat} {xs : Nat → Int32} {A : Nat → Prop} {D : va_G} {k : Nat → ClassId} {sa sv : Nat} {i : Int} (C : LFX p s m meth c b L xs A D k sa sv) (hi : 0 ≤ i ∧ i + 6 ≤ (L : Int)) (hk : LAT p l e s m below meth c b A D k 2846 i) : LAT p l e s m below meth c b A D k 2028 i := by
  obtain ⟨hx, hb, hr, hml, hown, hts, hKK, hX, hbl, hbA, hA, hAf, hlocks, hSY, hRR, hL⟩ := id C
  intro a IA LA FA QA VA IB LB FB QB VB IC LC FC QC VC ID LD FD QD VD IR LR FR QR VR r H locs ls hI hRT hP hD hS hl
  have hK := hKK.1
  obtain ⟨hP, hD⟩ : PD D A ((GA k a IA LA FA QA VA r) ++ ((GB k a IB LB FB QB VB r) ++ ((GC k a IC LC FC QC VC r) ++ ((GD k a ID LD FD QD VD r) ++ ((GR k a IR LR FR QR VR r) ++ (r.tl)))))) H := ⟨hP, hD⟩
  obtain ⟨hWI, hWI_0, hWI_1, hWI_2, hrd, htr0, htr1, htr2, htr3, hrgk, hrgt, hdrc, hev, hmk, hM, hMK, hTI, hFS, htd, hlt, rgH, rgS, rgY, hdr, hit, hmmk, heq, htq, hrel⟩ := id hI
  obtain ⟨gw1, gw2, gw3, gw4, gw5, gw6, gw7, gw8, gw9, gw10, gw11⟩ := id hWI
  have hx0 := gw9
  have hYI := gw11
  obtain ⟨z1, hz1, hz1a, hz1b⟩ := i32_z (xs (iZ (i + 1)).toNatClampNeg)
  obtain ⟨z2, hz2, hz2a, hz2b⟩ := i32_z (xs (iZ (i + 2)).toNatClampNeg)
  obtain ⟨z3, hz3, hz3a, hz3b⟩ := i32_z (xs (iZ (i + 3)).toNatClampNeg)
  obtain ⟨z4, hz4, hz4a, hz4b⟩ := i32_z (xs (iZ (i + 4)).toNatClampNeg)
  obtain ⟨z5, hz5, hz5a, hz5b⟩ := i32_z (xs (iZ (i + 5)).toNatClampNeg)
  have hl : lv_has ls 4 [(3, .int (iZ i)), (2, .ref (a 106)), (1, .ref (a 0)), (0, .ref b)] := hl
  refine lv_aload_n hx hb dL_law_2028 rfl (lv_at hl 2 rfl) ?_
  refine CKV2 (As := []) (rest := []) (tl := (GB k a IB LB FB QB VB r) ++ ((GC k a IC LC FC QC VC r) ++ ((GD k a ID LD FD QD VD r) ++ ((GR k a IR LR FR QR VR r) ++ (r.tl))))) hx hb hml hown hts hKK hP hD hS hA (p_idle l D k (a 0) (a 1) (a 2) (a 3) (a 4) (a 5) (a 6) (a 7) (a 8) (a 9) (a 10) (a 11) (IA 0) (IA 1) (IA 2) (LA 0) (LA 1) ([.ref (a 26), .ref (a 27), .ref (a 28), .int (iZ (IA 3)), .int (iZ (IA 4)), .int (iZ (IA 5)), .int (iZ (IA 6))]) (a 23) (a 27) (a 28) (a 24) (a 25) (IA 3) (IA 4) (IA 5) (FA 0) (FA 1) (a 29) (a 30) (a 31) (a 32) (IA 7) (IA 8) (FA 2) (FA 3) (FA 4) (FA 5) rfl rfl rfl rfl rfl (by omega) hx0 ⟨by omega, by omega⟩ (by omega) ⟨by omega, by omega⟩ ⟨by omega, by omega⟩ ⟨by omega, by omega⟩ gw10) ci_X11_idle qm_L_218 ⟨Nat.le_of_ble_eq_true rfl, Nat.le_of_ble_eq_true rfl⟩ (lroom _) [0, 1, 3, 8, 9, 10, 11, 2, 6, 7] [4, 5, 12, 13, 14, 15, 16, 17, 18, 19, 20, 21, 22, 23, 24, 25] rfl rfl rfl (by decide +kernel) (by decide +kernel) (by decide +kernel) 0 rfl rfl rfl hl.1 rfl (Nat.le_of_ble_eq_true rfl) dL_law_2029 (fun u_1 H locs hφ hP hD hS => ?_)
  obtain ⟨I_2, L_3, F_4, G_5⟩ := u_1
  obtain ⟨hP, hD⟩ := PD.by2 (is := [16, 17, 23, 18, 0, 1, 24, 25, 19, 20, 21, 22, 2, 3, 4, 5, 6, 7, 8, 9, 10, 11, 12, 13, 14, 15]) (y := (GA k a (fun i => [(IA 0), (IA 1), (I_2 1), (IA 3), (IA 4), (IA 5), (IA 6), (IA 7), (IA 8), (IA 9), (IA 10), (IA 11), (IA 12), (IA 13), (IA 14), (IA 15), (IA 16), (IA 17), (IA 18)].getD i 0) LA FA QA VA r)) ⟨hP, hD⟩ (by decide +kernel) rfl
  refine W.eq (g2 := F0 m 2032 ls [.int (iZ (I_2 0))]) rfl ?_
  refine lv_pop hx hb dL_law_2032 rfl ?_
  refine lv_aload_n hx hb dL_law_2033 rfl (lv_at hl 1 rfl) ?_
  obtain ⟨hP, hD⟩ := PD.fr5 ⟨hP, hD⟩
  refine CKV2 (As := []) (rest := []) (tl := (GA k a (fun i => [(IA 0), (IA 1), (I_2 1), (IA 3), (IA 4), (IA 5), (IA 6), (IA 7), (IA 8), (IA 9), (IA 10), (IA 11), (IA 12), (IA 13), (IA 14), (IA 15), (IA 16), (IA 17), (IA 18)].getD i 0) LA FA QA VA r) ++ ((GB k a IB LB FB QB VB r) ++ ((GC k a IC LC FC QC VC r) ++ ((GD k a ID LD FD QD VD r) ++ (r.tl))))) hx hb hml hown hts hKK hP hD hS hA (q_idle l D k (a 106) (a 107) (a 108) (a 109) (a 110) (a 111) (a 112) (a 113) (a 114) (a 115) (a 116) (a 117) (a 118) (a 119) (a 120) (a 121) (a 122) (IR 0) (IR 1) (IR 2) (IR 3) (IR 4) (IR 5) (IR 6) (IR 7) (IR 8) (IR 9) (IR 10) (IR 11) (IR 12) (IR 13) (IR 14) (IR 15) (IR 16) (IR 17) (LR 0) (LR 1) (FR 0) (FR 6) (FR 7) (FR 8) (FR 9) hM rgH) ci_X12_idle qm_L_221 ⟨Nat.le_of_ble_eq_true rfl, Nat.le_of_ble_eq_true rfl⟩ (lroom _) [0, 1, 9, 10, 11, 12] [2, 3, 4, 5, 6, 7, 8, 13, 14, 15, 16] rfl rfl rfl (by decide +kernel) (by decide +kernel) (by decide +kernel) 0 rfl rfl rfl hl.1 rfl (Nat.le_of_ble_eq_true rfl) dL_law_2034 (fun u_7 H locs hφ hP hD hS => ?_)
  obtain ⟨I_8, L_9, F_10, G_11⟩ := u_7
  have p_13 : rgI (F_10 3) 0 1000000 120 := hφ
  obtain ⟨hP, hD⟩ := PD.by2 (is := [11, 12, 0, 1, 2, 3, 4, 5, 6, 13, 14, 15, 16, 7, 8, 9, 10]) (y := (GR k a (fun i => [(I_8 1), (IR 1), (IR 2), (IR 3), (IR 4), (IR 5), (IR 6), (IR 7), (IR 8), (IR 9), (IR 10), (IR 11), (IR 12), (IR 13), (IR 14), (IR 15), (IR 16), (IR 17)].getD i 0) LR (fun i => [(FR 0), (FR 1), (FR 2), (FR 3), (FR 4), (FR 5), (F_10 0), (F_10 1), (F_10 2), (F_10 3), (FR 10), (FR 11), (FR 12), (FR 13)].getD i (fun _ => 0)) QR VR r)) ⟨hP, hD⟩ (by decide +kernel) rfl
  refine W.eq (g2 := F0 m 2037 ls [.int (iZ (I_8 0))]) rfl ?_
  refine lv_pop hx hb dL_law_2037 rfl ?_
  refine lv_goto (tgt := 2846) hx hb dL_law_2038 (by decide) ?_
  obtain ⟨hP, hD⟩ := PD.fr5 ⟨hP, hD⟩
  obtain ⟨hP, hD⟩ := PD.fr5 ⟨hP, hD⟩
  obtain ⟨hP, hD⟩ := PD.fr5 ⟨hP, hD⟩
  obtain ⟨hP, hD⟩ := PD.fr5 ⟨hP, hD⟩
  exact hk a (fun i => [(IA 0), (IA 1), (I_2 1), (IA 3), (IA 4), (IA 5), (IA 6), (IA 7), (IA 8), (IA 9), (IA 10), (IA 11), (IA 12), (IA 13), (IA 14), (IA 15), (IA 16), (IA 17), (IA 18)].getD i 0) LA FA QA VA IB LB FB QB VB IC LC FC QC VC ID LD FD QD VD (fun i => [(I_8 1), (IR 1), (IR 2), (IR 3), (IR 4), (IR 5), (IR 6), (IR 7), (IR 8), (IR 9), (IR 10), (IR 11), (IR 12), (IR 13), (IR 14), (IR 15), (IR 16), (IR 17)].getD i 0) LR (fun i => [(FR 0), (FR 1), (FR 2), (FR 3), (FR 4), (FR 5), (F_10 0), (F_10 1), (F_10 2), (F_10 3), (FR 10), (FR 11), (FR 12), (FR 13)].getD i (fun _ => 0)) QR VR r H locs ls (show INV _ _ _ _ _ _ _ _ _ _ from ⟨hWI, hWI_0, hWI_1, hWI_2, hrd, htr0, htr1, htr2, htr3, hrgk, hrgt, hdrc, hev, hmk, hM, hMK, hTI, hFS, htd, hlt, (show rgI (F_10 3) 0 1000000 120 from (by assumption)), rgS, rgY, hdr, hit, hmmk, heq, htq, hrel⟩) hRT hP hD hS (lv_sub hl [0, 1, 2, 3] rfl)
set_option maxHeartbeats 40000000 in
set_option maxRecDepth 100000 in
theorem law_c49 {p : Program} {e : Env} {s : State} {m : MethodId} {below : List Frame} {meth : Method} {c : Code} (l : Launch) {b L : Nat} {xs : Nat → Int32} {A : Nat → Prop} {D : va_G} {k : Nat → ClassId} {sa sv : Nat} {i : Int} (C : LFX p s m meth c b L xs A D k sa sv) (hi : 0 ≤ i ∧ i + 6 ≤ (L : Int)) (hk : LAT p l e s m below meth c b A D k 2846 i) : LAT p l e s m below meth c b A D k 2041 i := by
  obtain ⟨hx, hb, hr, hml, hown, hts, hKK, hX, hbl, hbA, hA, hAf, hlocks, hSY, hRR, hL⟩ := id C
  intro a IA LA FA QA VA IB LB FB QB VB IC LC FC QC VC ID LD FD QD VD IR LR FR QR VR r H locs ls hI hRT hP hD hS hl
  have hK := hKK.1
  obtain ⟨hP, hD⟩ : PD D A ((GA k a IA LA FA QA VA r) ++ ((GB k a IB LB FB QB VB r) ++ ((GC k a IC LC FC QC VC r) ++ ((GD k a ID LD FD QD VD r) ++ ((GR k a IR LR FR QR VR r) ++ (r.tl)))))) H := ⟨hP, hD⟩
  obtain ⟨hWI, hWI_0, hWI_1, hWI_2, hrd, htr0, htr1, htr2, htr3, hrgk, hrgt, hdrc, hev, hmk, hM, hMK, hTI, hFS, htd, hlt, rgH, rgS, rgY, hdr, hit, hmmk, heq, htq, hrel⟩ := id hI
  obtain ⟨gw1, gw2, gw3, gw4, gw5, gw6, gw7, gw8, gw9, gw10, gw11⟩ := id hWI
  have hx0 := gw9
  have hYI := gw11
  obtain ⟨z1, hz1, hz1a, hz1b⟩ := i32_z (xs (iZ (i + 1)).toNatClampNeg)
  obtain ⟨z2, hz2, hz2a, hz2b⟩ := i32_z (xs (iZ (i + 2)).toNatClampNeg)
  obtain ⟨z3, hz3, hz3a, hz3b⟩ := i32_z (xs (iZ (i + 3)).toNatClampNeg)
  obtain ⟨z4, hz4, hz4a, hz4b⟩ := i32_z (xs (iZ (i + 4)).toNatClampNeg)
  obtain ⟨z5, hz5, hz5a, hz5b⟩ := i32_z (xs (iZ (i + 5)).toNatClampNeg)
  have hl : lv_has ls 4 [(3, .int (iZ i)), (2, .ref (a 106)), (1, .ref (a 0)), (0, .ref b)] := hl
  refine lv_aload_n hx hb dL_law_2041 rfl (lv_at hl 2 rfl) ?_
  refine lv_aload_n hx hb dL_law_2042 rfl (lv_at hl 3 rfl) ?_
  refine lv_iload_n hx hb dL_law_2043 rfl (lv_at hl 0 rfl) ?_
  refine lv_iconst (v := iZ 1) hx hb dL_law_2044 (by decide) ?_
  refine lv_iadd hx hb dL_law_2045 ?_
  refine lv_topi (fun x_1 ex_1 => ?_)
  obtain rfl : x_1 = iZ (i + 1) := ex_1.trans (iZ_add i 1)
  refine va_sld hx hb hX hbl hbA hS (zin (e := (i + 1)) (n := L) ⟨by omega, by omega⟩ (by omega)) dL_law_2046 ?_
  refine lv_topi (fun x_2 ex_2 => ?_)
  obtain rfl : x_2 = iZ z1 := ex_2.trans hz1
  refine lv_aload_n hx hb dL_law_2047 rfl (lv_at hl 3 rfl) ?_
  refine lv_iload_n hx hb dL_law_2048 rfl (lv_at hl 0 rfl) ?_
  refine lv_iconst (v := iZ 2) hx hb dL_law_2049 (by decide) ?_
  refine lv_iadd hx hb dL_law_2050 ?_
  refine lv_topi (fun x_3 ex_3 => ?_)
  obtain rfl : x_3 = iZ (i + 2) := ex_3.trans (iZ_add i 2)
  refine va_sld hx hb hX hbl hbA hS (zin (e := (i + 2)) (n := L) ⟨by omega, by omega⟩ (by omega)) dL_law_2051 ?_
  refine lv_topi (fun x_4 ex_4 => ?_)
  obtain rfl : x_4 = iZ z2 := ex_4.trans hz2
  refine lv_aload_n hx hb dL_law_2052 rfl (lv_at hl 3 rfl) ?_
  refine lv_iload_n hx hb dL_law_2053 rfl (lv_at hl 0 rfl) ?_
  refine lv_iconst (v := iZ 3) hx hb dL_law_2054 (by decide) ?_
  refine lv_iadd hx hb dL_law_2055 ?_
  refine lv_topi (fun x_5 ex_5 => ?_)
  obtain rfl : x_5 = iZ (i + 3) := ex_5.trans (iZ_add i 3)
  refine va_sld hx hb hX hbl hbA hS (zin (e := (i + 3)) (n := L) ⟨by omega, by omega⟩ (by omega)) dL_law_2056 ?_
  refine lv_topi (fun x_6 ex_6 => ?_)
  obtain rfl : x_6 = iZ z3 := ex_6.trans hz3
  obtain ⟨hP, hD⟩ := PD.mid4 ⟨hP, hD⟩
  refine CXM (mid := (GB k a IB LB FB QB VB r) ++ ((GC k a IC LC FC QC VC r) ++ ((GD k a ID LD FD QD VD r) ++ ((GR k a IR LR FR QR VR r))))) (c0 := 123) (s0 := 16705) (r := r) (As := [.int (iZ z1), .int (iZ z2), .int (iZ z3)]) (rest := []) hx hb hml hown hts hKK hP hD hS hA (p_echo l D k (a 0) (a 1) (a 2) (a 3) (a 4) (a 5) (a 6) (a 7) (a 8) (a 9) (a 10) (a 11) (IA 0) (IA 1) (IA 2) (LA 0) (LA 1) ([.ref (a 26), .ref (a 27), .ref (a 28), .int (iZ (IA 3)), .int (iZ (IA 4)), .int (iZ (IA 5)), .int (iZ (IA 6))]) (a 23) (a 27) (a 28) (a 24) (a 25) (IA 3) (IA 4) (IA 5) (FA 0) (FA 1) z1 z2 z3 r hRT rfl rfl rfl rfl rfl (by omega) hx0 ⟨by omega, by omega⟩ (by omega) ⟨by omega, by omega⟩ ⟨by omega, by omega⟩ ⟨by omega, by omega⟩ ⟨by omega, by omega⟩) ci_X11_echo qm_L_222 ⟨Nat.le_of_ble_eq_true rfl, Nat.le_of_ble_eq_true rfl⟩ ⟨Nat.le_of_ble_eq_true rfl, Nat.le_of_ble_eq_true rfl⟩ [0, 1, 17, 2, 6, 7] [3, 4, 5, 8, 9, 10, 11, 12, 13, 14, 15, 16, 18, 19, 20, 21, 22, 23, 24, 25] rfl rfl rfl (by decide +kernel) (by decide +kernel) (by decide +kernel) 0 rfl rfl rfl hl.1 rfl (Nat.le_of_ble_eq_true rfl) dL_law_2057 (fun u_7 H locs hφ hP hD hS => ?_)
  obtain ⟨r_12, I_8, L_9, F_10, G_11⟩ := u_7
  have rtr_12 : RT k r_12 := hφ
  obtain ⟨hP, hD⟩ := PD.dim4 ⟨hP, hD⟩
  obtain ⟨hP, hD⟩ := PD.by2 (is := [20, 21, 23, 0, 1, 2, 24, 25, 3, 4, 5, 6, 7, 8, 9, 10, 11, 22, 12, 13, 14, 15, 16, 17, 18, 19]) (y := (GA k a (fun i => [(IA 0), (IA 1), (I_8 1), (IA 3), (IA 4), (IA 5), (IA 6), (IA 7), (IA 8), (IA 9), (IA 10), (IA 11), (IA 12), (IA 13), (IA 14), (IA 15), (IA 16), (IA 17), (IA 18)].getD i 0) LA FA QA VA r_12)) ⟨hP, hD⟩ (by decide +kernel) rfl
  refine W.ceq (cells' := 123 + cz true r_12.b) (slots' := 16705 + sz true r_12.b) rfl rfl ?_
  refine W.eq (g2 := F0 m 2060 ls [.int (iZ (I_8 0))]) rfl ?_
  refine lv_pop hx hb dL_law_2060 rfl ?_
  refine lv_aload_n hx hb dL_law_2061 rfl (lv_at hl 1 rfl) ?_
  refine lv_aload_n hx hb dL_law_2062 rfl (lv_at hl 3 rfl) ?_
  refine lv_iload_n hx hb dL_law_2063 rfl (lv_at hl 0 rfl) ?_
  refine lv_iconst (v := iZ 1) hx hb dL_law_2064 (by decide) ?_
  refine lv_iadd hx hb dL_law_2065 ?_
  refine lv_topi (fun x_13 ex_13 => ?_)
  obtain rfl : x_13 = iZ (i + 1) := ex_13.trans (iZ_add i 1)
  refine va_sld hx hb hX hbl hbA hS (zin (e := (i + 1)) (n := L) ⟨by omega, by omega⟩ (by omega)) dL_law_2066 ?_
  refine lv_topi (fun x_14 ex_14 => ?_)
  obtain rfl : x_14 = iZ z1 := ex_14.trans hz1
  refine lv_aload_n hx hb dL_law_2067 rfl (lv_at hl 3 rfl) ?_
  refine lv_iload_n hx hb dL_law_2068 rfl (lv_at hl 0 rfl) ?_
  refine lv_iconst (v := iZ 2) hx hb dL_law_2069 (by decide) ?_
  refine lv_iadd hx hb dL_law_2070 ?_
  refine lv_topi (fun x_15 ex_15 => ?_)
  obtain rfl : x_15 = iZ (i + 2) := ex_15.trans (iZ_add i 2)
  refine va_sld hx hb hX hbl hbA hS (zin (e := (i + 2)) (n := L) ⟨by omega, by omega⟩ (by omega)) dL_law_2071 ?_
  refine lv_topi (fun x_16 ex_16 => ?_)
  obtain rfl : x_16 = iZ z2 := ex_16.trans hz2
  refine lv_aload_n hx hb dL_law_2072 rfl (lv_at hl 3 rfl) ?_
  refine lv_iload_n hx hb dL_law_2073 rfl (lv_at hl 0 rfl) ?_
  refine lv_iconst (v := iZ 3) hx hb dL_law_2074 (by decide) ?_
  refine lv_iadd hx hb dL_law_2075 ?_
  refine lv_topi (fun x_17 ex_17 => ?_)
  obtain rfl : x_17 = iZ (i + 3) := ex_17.trans (iZ_add i 3)
  refine va_sld hx hb hX hbl hbA hS (zin (e := (i + 3)) (n := L) ⟨by omega, by omega⟩ (by omega)) dL_law_2076 ?_
  refine lv_topi (fun x_18 ex_18 => ?_)
  obtain rfl : x_18 = iZ z3 := ex_18.trans hz3
  obtain ⟨hP, hD⟩ := PD.fr5 ⟨hP, hD⟩
  refine CKV2 (As := [.int (iZ z1), .int (iZ z2), .int (iZ z3)]) (rest := []) (tl := (GA k a (fun i => [(IA 0), (IA 1), (I_8 1), (IA 3), (IA 4), (IA 5), (IA 6), (IA 7), (IA 8), (IA 9), (IA 10), (IA 11), (IA 12), (IA 13), (IA 14), (IA 15), (IA 16), (IA 17), (IA 18)].getD i 0) LA FA QA VA r_12) ++ ((GB k a IB LB FB QB VB r) ++ ((GC k a IC LC FC QC VC r) ++ ((GD k a ID LD FD QD VD r) ++ (r_12.tl))))) hx hb hml hown hts hKK hP hD hS hA (q_echo l D k (a 106) (a 107) (a 108) (a 109) (a 110) (a 111) (a 112) (a 113) (a 114) (a 115) (a 116) (a 117) (a 118) (a 119) (a 120) (a 121) (a 122) (IR 0) (IR 1) (IR 2) (IR 3) (IR 4) (IR 5) (IR 6) (IR 7) (IR 8) (IR 9) (IR 10) (IR 11) (IR 12) (IR 13) (IR 14) (IR 15) (IR 16) (IR 17) (LR 0) (LR 1) (FR 0) z1 z2 z3 hM ⟨by omega, by omega⟩ ⟨by omega, by omega⟩ ⟨by omega, by omega⟩) ci_X12_echo qm_L_225 ⟨Nat.le_of_ble_eq_true rfl, Nat.le_of_ble_eq_true rfl⟩ (lroom _) [0, 1] [2, 3, 4, 5, 6, 7, 8, 9, 10, 11, 12, 13, 14, 15, 16] rfl rfl rfl (by decide +kernel) (by decide +kernel) (by decide +kernel) 0 rfl rfl rfl hl.1 rfl (Nat.le_of_ble_eq_true rfl) dL_law_2077 (fun u_19 H locs hφ hP hD hS => ?_)
  obtain ⟨I_20, L_21, F_22, G_23⟩ := u_19
  obtain ⟨hP, hD⟩ := PD.by2 (is := [15, 16, 0, 1, 2, 3, 4, 5, 6, 7, 8, 9, 10, 11, 12, 13, 14]) (y := (GR k a (fun i => [(I_20 1), (IR 1), (IR 2), (IR 3), (IR 4), (IR 5), (IR 6), (IR 7), (IR 8), (IR 9), (IR 10), (IR 11), (IR 12), (IR 13), (IR 14), (IR 15), (IR 16), (IR 17)].getD i 0) LR FR QR VR r_12)) ⟨hP, hD⟩ (by decide +kernel) rfl
  refine W.eq (g2 := F0 m 2080 ls [.int (iZ (I_20 0))]) rfl ?_
  refine lv_pop hx hb dL_law_2080 rfl ?_
  refine lv_goto (tgt := 2846) hx hb dL_law_2081 (by decide) ?_
  obtain ⟨hP, hD⟩ := PD.fr5 ⟨hP, hD⟩
  obtain ⟨hP, hD⟩ := PD.fr5 ⟨hP, hD⟩
  obtain ⟨hP, hD⟩ := PD.fr5 ⟨hP, hD⟩
  obtain ⟨hP, hD⟩ := PD.fr5 ⟨hP, hD⟩
  exact hk a (fun i => [(IA 0), (IA 1), (I_8 1), (IA 3), (IA 4), (IA 5), (IA 6), (IA 7), (IA 8), (IA 9), (IA 10), (IA 11), (IA 12), (IA 13), (IA 14), (IA 15), (IA 16), (IA 17), (IA 18)].getD i 0) LA FA QA VA IB LB FB QB VB IC LC FC QC VC ID LD FD QD VD (fun i => [(I_20 1), (IR 1), (IR 2), (IR 3), (IR 4), (IR 5), (IR 6), (IR 7), (IR 8), (IR 9), (IR 10), (IR 11), (IR 12), (IR 13), (IR 14), (IR 15), (IR 16), (IR 17)].getD i 0) LR FR QR VR r_12 H locs ls (show INV _ _ _ _ _ _ _ _ _ _ from ⟨hWI, hWI_0, hWI_1, hWI_2, hrd, htr0, htr1, htr2, htr3, hrgk, hrgt, hdrc, hev, hmk, hM, hMK, hTI, hFS, htd, hlt, rgH, rgS, rgY, hdr, hit, hmmk, heq, htq, hrel⟩) rtr_12 hP hD hS (lv_sub hl [0, 1, 2, 3] rfl)
set_option maxHeartbeats 40000000 in
set_option maxRecDepth 100000 in
theorem law_c50 {p : Program} {e : Env} {s : State} {m : MethodId} {below : List Frame} {meth : Method} {c : Code} (l : Launch) {b L : Nat} {xs : Nat → Int32} {A : Nat → Prop} {D : va_G} {k : Nat → ClassId} {sa sv : Nat} {i : Int} (C : LFX p s m meth c b L xs A D k sa sv) (hi : 0 ≤ i ∧ i + 6 ≤ (L : Int)) (hk : LAT p l e s m below meth c b A D k 2846 i) : LAT p l e s m below meth c b A D k 2084 i := by
  obtain ⟨hx, hb, hr, hml, hown, hts, hKK, hX, hbl, hbA, hA, hAf, hlocks, hSY, hRR, hL⟩ := id C
  intro a IA LA FA QA VA IB LB FB QB VB IC LC FC QC VC ID LD FD QD VD IR LR FR QR VR r H locs ls hI hRT hP hD hS hl
  have hK := hKK.1
  obtain ⟨hP, hD⟩ : PD D A ((GA k a IA LA FA QA VA r) ++ ((GB k a IB LB FB QB VB r) ++ ((GC k a IC LC FC QC VC r) ++ ((GD k a ID LD FD QD VD r) ++ ((GR k a IR LR FR QR VR r) ++ (r.tl)))))) H := ⟨hP, hD⟩
  obtain ⟨hWI, hWI_0, hWI_1, hWI_2, hrd, htr0, htr1, htr2, htr3, hrgk, hrgt, hdrc, hev, hmk, hM, hMK, hTI, hFS, htd, hlt, rgH, rgS, rgY, hdr, hit, hmmk, heq, htq, hrel⟩ := id hI
  obtain ⟨gw1, gw2, gw3, gw4, gw5, gw6, gw7, gw8, gw9, gw10, gw11⟩ := id hWI
  have hx0 := gw9
  have hYI := gw11
  obtain ⟨z1, hz1, hz1a, hz1b⟩ := i32_z (xs (iZ (i + 1)).toNatClampNeg)
  obtain ⟨z2, hz2, hz2a, hz2b⟩ := i32_z (xs (iZ (i + 2)).toNatClampNeg)
  obtain ⟨z3, hz3, hz3a, hz3b⟩ := i32_z (xs (iZ (i + 3)).toNatClampNeg)
  obtain ⟨z4, hz4, hz4a, hz4b⟩ := i32_z (xs (iZ (i + 4)).toNatClampNeg)
  obtain ⟨z5, hz5, hz5a, hz5b⟩ := i32_z (xs (iZ (i + 5)).toNatClampNeg)
  have hl : lv_has ls 4 [(3, .int (iZ i)), (2, .ref (a 106)), (1, .ref (a 0)), (0, .ref b)] := hl
  refine lv_aload_n hx hb dL_law_2084 rfl (lv_at hl 2 rfl) ?_
  refine lv_aload_n hx hb dL_law_2085 rfl (lv_at hl 3 rfl) ?_
  refine lv_iload_n hx hb dL_law_2086 rfl (lv_at hl 0 rfl) ?_
  refine lv_iconst (v := iZ 1) hx hb dL_law_2087 (by decide) ?_
  refine lv_iadd hx hb dL_law_2088 ?_
  refine lv_topi (fun x_1 ex_1 => ?_)
  obtain rfl : x_1 = iZ (i + 1) := ex_1.trans (iZ_add i 1)
  refine va_sld hx hb hX hbl hbA hS (zin (e := (i + 1)) (n := L) ⟨by omega, by omega⟩ (by omega)) dL_law_2089 ?_
  refine lv_topi (fun x_2 ex_2 => ?_)
  obtain rfl : x_2 = iZ z1 := ex_2.trans hz1
  refine lv_aload_n hx hb dL_law_2090 rfl (lv_at hl 3 rfl) ?_
  refine lv_iload_n hx hb dL_law_2091 rfl (lv_at hl 0 rfl) ?_
  refine lv_iconst (v := iZ 2) hx hb dL_law_2092 (by decide) ?_
  refine lv_iadd hx hb dL_law_2093 ?_
  refine lv_topi (fun x_3 ex_3 => ?_)
  obtain rfl : x_3 = iZ (i + 2) := ex_3.trans (iZ_add i 2)
  refine va_sld hx hb hX hbl hbA hS (zin (e := (i + 2)) (n := L) ⟨by omega, by omega⟩ (by omega)) dL_law_2094 ?_
  refine lv_topi (fun x_4 ex_4 => ?_)
  obtain rfl : x_4 = iZ z2 := ex_4.trans hz2
  refine lv_aload_n hx hb dL_law_2095 rfl (lv_at hl 3 rfl) ?_
  refine lv_iload_n hx hb dL_law_2096 rfl (lv_at hl 0 rfl) ?_
  refine lv_iconst (v := iZ 3) hx hb dL_law_2097 (by decide) ?_
  refine lv_iadd hx hb dL_law_2098 ?_
  refine lv_topi (fun x_5 ex_5 => ?_)
  obtain rfl : x_5 = iZ (i + 3) := ex_5.trans (iZ_add i 3)
  refine va_sld hx hb hX hbl hbA hS (zin (e := (i + 3)) (n := L) ⟨by omega, by omega⟩ (by omega)) dL_law_2099 ?_
  refine lv_topi (fun x_6 ex_6 => ?_)
  obtain rfl : x_6 = iZ z3 := ex_6.trans hz3
  obtain ⟨hP, hD⟩ := PD.mid4 ⟨hP, hD⟩
  refine CXM (mid := (GB k a IB LB FB QB VB r) ++ ((GC k a IC LC FC QC VC r) ++ ((GD k a ID LD FD QD VD r) ++ ((GR k a IR LR FR QR VR r))))) (c0 := 123) (s0 := 16705) (r := r) (As := [.int (iZ z1), .int (iZ z2), .int (iZ z3)]) (rest := []) hx hb hml hown hts hKK hP hD hS hA (p_answered l D k (a 0) (a 1) (a 2) (a 3) (a 4) (a 5) (a 6) (a 7) (a 8) (a 9) (a 10) (a 11) (IA 0) (IA 1) (IA 2) (LA 0) (LA 1) ([.ref (a 26), .ref (a 27), .ref (a 28), .int (iZ (IA 3)), .int (iZ (IA 4)), .int (iZ (IA 5)), .int (iZ (IA 6))]) (a 23) (a 27) (a 28) (a 24) (a 25) (IA 3) (IA 4) (IA 5) (FA 0) (FA 1) z1 z2 z3 r hRT rfl rfl rfl rfl rfl (by omega) hx0 ⟨by omega, by omega⟩ (by omega) ⟨by omega, by omega⟩ ⟨by omega, by omega⟩ ⟨by omega, by omega⟩ ⟨by omega, by omega⟩) ci_X11_answered qm_L_226 ⟨Nat.le_of_ble_eq_true rfl, Nat.le_of_ble_eq_true rfl⟩ ⟨Nat.le_of_ble_eq_true rfl, Nat.le_of_ble_eq_true rfl⟩ [0, 1, 17, 2, 6, 7] [3, 4, 5, 8, 9, 10, 11, 12, 13, 14, 15, 16, 18, 19, 20, 21, 22, 23, 24, 25] rfl rfl rfl (by decide +kernel) (by decide +kernel) (by decide +kernel) 0 rfl rfl rfl hl.1 rfl (Nat.le_of_ble_eq_true rfl) dL_law_2100 (fun u_7 H locs hφ hP hD hS => ?_)
  obtain ⟨r_12, I_8, L_9, F_10, G_11⟩ := u_7
  have rtr_12 : RT k r_12 := hφ
  obtain ⟨hP, hD⟩ := PD.dim4 ⟨hP, hD⟩
  obtain ⟨hP, hD⟩ := PD.by2 (is := [20, 21, 23, 0, 1, 2, 24, 25, 3, 4, 5, 6, 7, 8, 9, 10, 11, 22, 12, 13, 14, 15, 16, 17, 18, 19]) (y := (GA k a (fun i => [(IA 0), (IA 1), (I_8 1), (IA 3), (IA 4), (IA 5), (IA 6), (IA 7), (IA 8), (IA 9), (IA 10), (IA 11), (IA 12), (IA 13), (IA 14), (IA 15), (IA 16), (IA 17), (IA 18)].getD i 0) LA FA QA VA r_12)) ⟨hP, hD⟩ (by decide +kernel) rfl
  refine W.ceq (cells' := 123 + cz true r_12.b) (slots' := 16705 + sz true r_12.b) rfl rfl ?_
  refine W.eq (g2 := F0 m 2103 ls [.int (iZ (I_8 0))]) rfl ?_
  refine lv_pop hx hb dL_law_2103 rfl ?_
  refine lv_aload_n hx hb dL_law_2104 rfl (lv_at hl 1 rfl) ?_
  refine lv_aload_n hx hb dL_law_2105 rfl (lv_at hl 3 rfl) ?_
  refine lv_iload_n hx hb dL_law_2106 rfl (lv_at hl 0 rfl) ?_
  refine lv_iconst (v := iZ 1) hx hb dL_law_2107 (by decide) ?_
  refine lv_iadd hx hb dL_law_2108 ?_
  refine lv_topi (fun x_13 ex_13 => ?_)
  obtain rfl : x_13 = iZ (i + 1) := ex_13.trans (iZ_add i 1)
  refine va_sld hx hb hX hbl hbA hS (zin (e := (i + 1)) (n := L) ⟨by omega, by omega⟩ (by omega)) dL_law_2109 ?_
  refine lv_topi (fun x_14 ex_14 => ?_)
  obtain rfl : x_14 = iZ z1 := ex_14.trans hz1
  refine lv_aload_n hx hb dL_law_2110 rfl (lv_at hl 3 rfl) ?_
  refine lv_iload_n hx hb dL_law_2111 rfl (lv_at hl 0 rfl) ?_
  refine lv_iconst (v := iZ 2) hx hb dL_law_2112 (by decide) ?_
  refine lv_iadd hx hb dL_law_2113 ?_
  refine lv_topi (fun x_15 ex_15 => ?_)
  obtain rfl : x_15 = iZ (i + 2) := ex_15.trans (iZ_add i 2)
  refine va_sld hx hb hX hbl hbA hS (zin (e := (i + 2)) (n := L) ⟨by omega, by omega⟩ (by omega)) dL_law_2114 ?_
  refine lv_topi (fun x_16 ex_16 => ?_)
  obtain rfl : x_16 = iZ z2 := ex_16.trans hz2
  refine lv_aload_n hx hb dL_law_2115 rfl (lv_at hl 3 rfl) ?_
  refine lv_iload_n hx hb dL_law_2116 rfl (lv_at hl 0 rfl) ?_
  refine lv_iconst (v := iZ 3) hx hb dL_law_2117 (by decide) ?_
  refine lv_iadd hx hb dL_law_2118 ?_
  refine lv_topi (fun x_17 ex_17 => ?_)
  obtain rfl : x_17 = iZ (i + 3) := ex_17.trans (iZ_add i 3)
  refine va_sld hx hb hX hbl hbA hS (zin (e := (i + 3)) (n := L) ⟨by omega, by omega⟩ (by omega)) dL_law_2119 ?_
  refine lv_topi (fun x_18 ex_18 => ?_)
  obtain rfl : x_18 = iZ z3 := ex_18.trans hz3
  obtain ⟨hP, hD⟩ := PD.fr5 ⟨hP, hD⟩
  refine CKV2 (As := [.int (iZ z1), .int (iZ z2), .int (iZ z3)]) (rest := []) (tl := (GA k a (fun i => [(IA 0), (IA 1), (I_8 1), (IA 3), (IA 4), (IA 5), (IA 6), (IA 7), (IA 8), (IA 9), (IA 10), (IA 11), (IA 12), (IA 13), (IA 14), (IA 15), (IA 16), (IA 17), (IA 18)].getD i 0) LA FA QA VA r_12) ++ ((GB k a IB LB FB QB VB r) ++ ((GC k a IC LC FC QC VC r) ++ ((GD k a ID LD FD QD VD r) ++ (r_12.tl))))) hx hb hml hown hts hKK hP hD hS hA (q_answered l D k (a 106) (a 107) (a 108) (a 109) (a 110) (a 111) (a 112) (a 113) (a 114) (a 115) (a 116) (a 117) (a 118) (a 119) (a 120) (a 121) (a 122) (IR 0) (IR 1) (IR 2) (IR 3) (IR 4) (IR 5) (IR 6) (IR 7) (IR 8) (IR 9) (IR 10) (IR 11) (IR 12) (IR 13) (IR 14) (IR 15) (IR 16) (IR 17) (LR 0) (LR 1) (FR 0) z1 z2 z3 hM ⟨by omega, by omega⟩ ⟨by omega, by omega⟩ ⟨by omega, by omega⟩) ci_X12_answered qm_L_229 ⟨Nat.le_of_ble_eq_true rfl, Nat.le_of_ble_eq_true rfl⟩ (lroom _) [0, 1] [2, 3, 4, 5, 6, 7, 8, 9, 10, 11, 12, 13, 14, 15, 16] rfl rfl rfl (by decide +kernel) (by decide +kernel) (by decide +kernel) 0 rfl rfl rfl hl.1 rfl (Nat.le_of_ble_eq_true rfl) dL_law_2120 (fun u_19 H locs hφ hP hD hS => ?_)
  obtain ⟨I_20, L_21, F_22, G_23⟩ := u_19
  obtain ⟨hP, hD⟩ := PD.by2 (is := [15, 16, 0, 1, 2, 3, 4, 5, 6, 7, 8, 9, 10, 11, 12, 13, 14]) (y := (GR k a (fun i => [(I_20 1), (IR 1), (IR 2), (IR 3), (IR 4), (IR 5), (IR 6), (IR 7), (IR 8), (IR 9), (IR 10), (IR 11), (IR 12), (IR 13), (IR 14), (IR 15), (IR 16), (IR 17)].getD i 0) LR FR QR VR r_12)) ⟨hP, hD⟩ (by decide +kernel) rfl
  refine W.eq (g2 := F0 m 2123 ls [.int (iZ (I_20 0))]) rfl ?_
  refine lv_pop hx hb dL_law_2123 rfl ?_
  refine lv_goto (tgt := 2846) hx hb dL_law_2124 (by decide) ?_
  obtain ⟨hP, hD⟩ := PD.fr5 ⟨hP, hD⟩
  obtain ⟨hP, hD⟩ := PD.fr5 ⟨hP, hD⟩
  obtain ⟨hP, hD⟩ := PD.fr5 ⟨hP, hD⟩
  obtain ⟨hP, hD⟩ := PD.fr5 ⟨hP, hD⟩
  exact hk a (fun i => [(IA 0), (IA 1), (I_8 1), (IA 3), (IA 4), (IA 5), (IA 6), (IA 7), (IA 8), (IA 9), (IA 10), (IA 11), (IA 12), (IA 13), (IA 14), (IA 15), (IA 16), (IA 17), (IA 18)].getD i 0) LA FA QA VA IB LB FB QB VB IC LC FC QC VC ID LD FD QD VD (fun i => [(I_20 1), (IR 1), (IR 2), (IR 3), (IR 4), (IR 5), (IR 6), (IR 7), (IR 8), (IR 9), (IR 10), (IR 11), (IR 12), (IR 13), (IR 14), (IR 15), (IR 16), (IR 17)].getD i 0) LR FR QR VR r_12 H locs ls (show INV _ _ _ _ _ _ _ _ _ _ from ⟨hWI, hWI_0, hWI_1, hWI_2, hrd, htr0, htr1, htr2, htr3, hrgk, hrgt, hdrc, hev, hmk, hM, hMK, hTI, hFS, htd, hlt, rgH, rgS, rgY, hdr, hit, hmmk, heq, htq, hrel⟩) rtr_12 hP hD hS (lv_sub hl [0, 1, 2, 3] rfl)
set_option maxHeartbeats 40000000 in
set_option maxRecDepth 100000 in
theorem law_c51 {p : Program} {e : Env} {s : State} {m : MethodId} {below : List Frame} {meth : Method} {c : Code} (l : Launch) {b L : Nat} {xs : Nat → Int32} {A : Nat → Prop} {D : va_G} {k : Nat → ClassId} {sa sv : Nat} {i : Int} (C : LFX p s m meth c b L xs A D k sa sv) (hi : 0 ≤ i ∧ i + 6 ≤ (L : Int)) (hk : LAT p l e s m below meth c b A D k 2846 i) : LAT p l e s m below meth c b A D k 2127 i := by
  obtain ⟨hx, hb, hr, hml, hown, hts, hKK, hX, hbl, hbA, hA, hAf, hlocks, hSY, hRR, hL⟩ := id C
  intro a IA LA FA QA VA IB LB FB QB VB IC LC FC QC VC ID LD FD QD VD IR LR FR QR VR r H locs ls hI hRT hP hD hS hl
  have hK := hKK.1
  obtain ⟨hP, hD⟩ : PD D A ((GA k a IA LA FA QA VA r) ++ ((GB k a IB LB FB QB VB r) ++ ((GC k a IC LC FC QC VC r) ++ ((GD k a ID LD FD QD VD r) ++ ((GR k a IR LR FR QR VR r) ++ (r.tl)))))) H := ⟨hP, hD⟩
  obtain ⟨hWI, hWI_0, hWI_1, hWI_2, hrd, htr0, htr1, htr2, htr3, hrgk, hrgt, hdrc, hev, hmk, hM, hMK, hTI, hFS, htd, hlt, rgH, rgS, rgY, hdr, hit, hmmk, heq, htq, hrel⟩ := id hI
  obtain ⟨gw1, gw2, gw3, gw4, gw5, gw6, gw7, gw8, gw9, gw10, gw11⟩ := id hWI
  have hx0 := gw9
  have hYI := gw11
  obtain ⟨z1, hz1, hz1a, hz1b⟩ := i32_z (xs (iZ (i + 1)).toNatClampNeg)
  obtain ⟨z2, hz2, hz2a, hz2b⟩ := i32_z (xs (iZ (i + 2)).toNatClampNeg)
  obtain ⟨z3, hz3, hz3a, hz3b⟩ := i32_z (xs (iZ (i + 3)).toNatClampNeg)
  obtain ⟨z4, hz4, hz4a, hz4b⟩ := i32_z (xs (iZ (i + 4)).toNatClampNeg)
  obtain ⟨z5, hz5, hz5a, hz5b⟩ := i32_z (xs (iZ (i + 5)).toNatClampNeg)
  have hl : lv_has ls 4 [(3, .int (iZ i)), (2, .ref (a 106)), (1, .ref (a 0)), (0, .ref b)] := hl
  refine lv_aload_n hx hb dL_law_2127 rfl (lv_at hl 2 rfl) ?_
  refine lv_aload_n hx hb dL_law_2128 rfl (lv_at hl 3 rfl) ?_
  refine lv_iload_n hx hb dL_law_2129 rfl (lv_at hl 0 rfl) ?_
  refine lv_iconst (v := iZ 1) hx hb dL_law_2130 (by decide) ?_
  refine lv_iadd hx hb dL_law_2131 ?_
  refine lv_topi (fun x_1 ex_1 => ?_)
  obtain rfl : x_1 = iZ (i + 1) := ex_1.trans (iZ_add i 1)
  refine va_sld hx hb hX hbl hbA hS (zin (e := (i + 1)) (n := L) ⟨by omega, by omega⟩ (by omega)) dL_law_2132 ?_
  refine lv_topi (fun x_2 ex_2 => ?_)
  obtain rfl : x_2 = iZ z1 := ex_2.trans hz1
  refine lv_aload_n hx hb dL_law_2133 rfl (lv_at hl 3 rfl) ?_
  refine lv_iload_n hx hb dL_law_2134 rfl (lv_at hl 0 rfl) ?_
  refine lv_iconst (v := iZ 2) hx hb dL_law_2135 (by decide) ?_
  refine lv_iadd hx hb dL_law_2136 ?_
  refine lv_topi (fun x_3 ex_3 => ?_)
  obtain rfl : x_3 = iZ (i + 2) := ex_3.trans (iZ_add i 2)
  refine va_sld hx hb hX hbl hbA hS (zin (e := (i + 2)) (n := L) ⟨by omega, by omega⟩ (by omega)) dL_law_2137 ?_
  refine lv_topi (fun x_4 ex_4 => ?_)
  obtain rfl : x_4 = iZ z2 := ex_4.trans hz2
  refine CKV2 (As := [.int (iZ z1), .int (iZ z2)]) (rest := []) (tl := (GB k a IB LB FB QB VB r) ++ ((GC k a IC LC FC QC VC r) ++ ((GD k a ID LD FD QD VD r) ++ ((GR k a IR LR FR QR VR r) ++ (r.tl))))) hx hb hml hown hts hKK hP hD hS hA (p_joint l D k (a 0) (a 1) (a 2) (a 3) (a 4) (a 5) (a 6) (a 7) (a 8) (a 9) (a 10) (a 11) (IA 0) (IA 1) (IA 2) (LA 0) (LA 1) ([.ref (a 26), .ref (a 27), .ref (a 28), .int (iZ (IA 3)), .int (iZ (IA 4)), .int (iZ (IA 5)), .int (iZ (IA 6))]) (a 23) (a 27) (a 28) (a 24) (a 25) (IA 3) (IA 4) (IA 5) (FA 0) (FA 1) (a 29) (a 30) (a 31) (a 32) (IA 7) (IA 8) (FA 2) (FA 3) (FA 4) (FA 5) z1 z2 rfl rfl rfl rfl rfl (by omega) hx0 ⟨by omega, by omega⟩ (by omega) ⟨by omega, by omega⟩ ⟨by omega, by omega⟩ ⟨by omega, by omega⟩ gw10 ⟨by omega, by omega⟩ ⟨by omega, by omega⟩) ci_X11_joint qm_L_230 ⟨Nat.le_of_ble_eq_true rfl, Nat.le_of_ble_eq_true rfl⟩ (lroom _) [0, 1, 3, 8, 9, 10, 11, 2, 6, 7] [4, 5, 12, 13, 14, 15, 16, 17, 18, 19, 20, 21, 22, 23, 24, 25] rfl rfl rfl (by decide +kernel) (by decide +kernel) (by decide +kernel) 0 rfl rfl rfl hl.1 rfl (Nat.le_of_ble_eq_true rfl) dL_law_2138 (fun u_5 H locs hφ hP hD hS => ?_)
  obtain ⟨I_6, L_7, F_8, G_9⟩ := u_5
  obtain ⟨hP, hD⟩ := PD.by2 (is := [16, 17, 23, 18, 0, 1, 24, 25, 19, 20, 21, 22, 2, 3, 4, 5, 6, 7, 8, 9, 10, 11, 12, 13, 14, 15]) (y := (GA k a (fun i => [(IA 0), (IA 1), (I_6 1), (IA 3), (IA 4), (IA 5), (IA 6), (IA 7), (IA 8), (IA 9), (IA 10), (IA 11), (IA 12), (IA 13), (IA 14), (IA 15), (IA 16), (IA 17), (IA 18)].getD i 0) LA FA QA VA r)) ⟨hP, hD⟩ (by decide +kernel) rfl
  refine W.eq (g2 := F0 m 2141 ls [.int (iZ (I_6 0))]) rfl ?_
  refine lv_pop hx hb dL_law_2141 rfl ?_
  refine lv_aload_n hx hb dL_law_2142 rfl (lv_at hl 1 rfl) ?_
  refine lv_aload_n hx hb dL_law_2143 rfl (lv_at hl 3 rfl) ?_
  refine lv_iload_n hx hb dL_law_2144 rfl (lv_at hl 0 rfl) ?_
  refine lv_iconst (v := iZ 1) hx hb dL_law_2145 (by decide) ?_
  refine lv_iadd hx hb dL_law_2146 ?_
  refine lv_topi (fun x_11 ex_11 => ?_)
  obtain rfl : x_11 = iZ (i + 1) := ex_11.trans (iZ_add i 1)
  refine va_sld hx hb hX hbl hbA hS (zin (e := (i + 1)) (n := L) ⟨by omega, by omega⟩ (by omega)) dL_law_2147 ?_
  refine lv_topi (fun x_12 ex_12 => ?_)
  obtain rfl : x_12 = iZ z1 := ex_12.trans hz1
  refine lv_aload_n hx hb dL_law_2148 rfl (lv_at hl 3 rfl) ?_
  refine lv_iload_n hx hb dL_law_2149 rfl (lv_at hl 0 rfl) ?_
  refine lv_iconst (v := iZ 2) hx hb dL_law_2150 (by decide) ?_
  refine lv_iadd hx hb dL_law_2151 ?_
  refine lv_topi (fun x_13 ex_13 => ?_)
  obtain rfl : x_13 = iZ (i + 2) := ex_13.trans (iZ_add i 2)
  refine va_sld hx hb hX hbl hbA hS (zin (e := (i + 2)) (n := L) ⟨by omega, by omega⟩ (by omega)) dL_law_2152 ?_
  refine lv_topi (fun x_14 ex_14 => ?_)
  obtain rfl : x_14 = iZ z2 := ex_14.trans hz2
  obtain ⟨hP, hD⟩ := PD.fr5 ⟨hP, hD⟩
  refine CKV2 (As := [.int (iZ z1), .int (iZ z2)]) (rest := []) (tl := (GA k a (fun i => [(IA 0), (IA 1), (I_6 1), (IA 3), (IA 4), (IA 5), (IA 6), (IA 7), (IA 8), (IA 9), (IA 10), (IA 11), (IA 12), (IA 13), (IA 14), (IA 15), (IA 16), (IA 17), (IA 18)].getD i 0) LA FA QA VA r) ++ ((GB k a IB LB FB QB VB r) ++ ((GC k a IC LC FC QC VC r) ++ ((GD k a ID LD FD QD VD r) ++ (r.tl))))) hx hb hml hown hts hKK hP hD hS hA (q_joint l D k (a 106) (a 107) (a 108) (a 109) (a 110) (a 111) (a 112) (a 113) (a 114) (a 115) (a 116) (a 117) (a 118) (a 119) (a 120) (a 121) (a 122) (IR 0) (IR 1) (IR 2) (IR 3) (IR 4) (IR 5) (IR 6) (IR 7) (IR 8) (IR 9) (IR 10) (IR 11) (IR 12) (IR 13) (IR 14) (IR 15) (IR 16) (IR 17) (LR 0) (LR 1) (FR 0) (FR 6) (FR 7) (FR 8) (FR 9) z1 z2 hM rgH ⟨by omega, by omega⟩ ⟨by omega, by omega⟩) ci_X12_joint qm_L_233 ⟨Nat.le_of_ble_eq_true rfl, Nat.le_of_ble_eq_true rfl⟩ (lroom _) [0, 1, 9, 10, 11, 12] [2, 3, 4, 5, 6, 7, 8, 13, 14, 15, 16] rfl rfl rfl (by decide +kernel) (by decide +kernel) (by decide +kernel) 0 rfl rfl rfl hl.1 rfl (Nat.le_of_ble_eq_true rfl) dL_law_2153 (fun u_15 H locs hφ hP hD hS => ?_)
  obtain ⟨I_16, L_17, F_18, G_19⟩ := u_15
  have p_21 : rgI (F_18 3) 0 1000000 120 := hφ
  obtain ⟨hP, hD⟩ := PD.by2 (is := [11, 12, 0, 1, 2, 3, 4, 5, 6, 13, 14, 15, 16, 7, 8, 9, 10]) (y := (GR k a (fun i => [(I_16 1), (IR 1), (IR 2), (IR 3), (IR 4), (IR 5), (IR 6), (IR 7), (IR 8), (IR 9), (IR 10), (IR 11), (IR 12), (IR 13), (IR 14), (IR 15), (IR 16), (IR 17)].getD i 0) LR (fun i => [(FR 0), (FR 1), (FR 2), (FR 3), (FR 4), (FR 5), (F_18 0), (F_18 1), (F_18 2), (F_18 3), (FR 10), (FR 11), (FR 12), (FR 13)].getD i (fun _ => 0)) QR VR r)) ⟨hP, hD⟩ (by decide +kernel) rfl
  refine W.eq (g2 := F0 m 2156 ls [.int (iZ (I_16 0))]) rfl ?_
  refine lv_pop hx hb dL_law_2156 rfl ?_
  refine lv_goto (tgt := 2846) hx hb dL_law_2157 (by decide) ?_
  obtain ⟨hP, hD⟩ := PD.fr5 ⟨hP, hD⟩
  obtain ⟨hP, hD⟩ := PD.fr5 ⟨hP, hD⟩
  obtain ⟨hP, hD⟩ := PD.fr5 ⟨hP, hD⟩
  obtain ⟨hP, hD⟩ := PD.fr5 ⟨hP, hD⟩
  exact hk a (fun i => [(IA 0), (IA 1), (I_6 1), (IA 3), (IA 4), (IA 5), (IA 6), (IA 7), (IA 8), (IA 9), (IA 10), (IA 11), (IA 12), (IA 13), (IA 14), (IA 15), (IA 16), (IA 17), (IA 18)].getD i 0) LA FA QA VA IB LB FB QB VB IC LC FC QC VC ID LD FD QD VD (fun i => [(I_16 1), (IR 1), (IR 2), (IR 3), (IR 4), (IR 5), (IR 6), (IR 7), (IR 8), (IR 9), (IR 10), (IR 11), (IR 12), (IR 13), (IR 14), (IR 15), (IR 16), (IR 17)].getD i 0) LR (fun i => [(FR 0), (FR 1), (FR 2), (FR 3), (FR 4), (FR 5), (F_18 0), (F_18 1), (F_18 2), (F_18 3), (FR 10), (FR 11), (FR 12), (FR 13)].getD i (fun _ => 0)) QR VR r H locs ls (show INV _ _ _ _ _ _ _ _ _ _ from ⟨hWI, hWI_0, hWI_1, hWI_2, hrd, htr0, htr1, htr2, htr3, hrgk, hrgt, hdrc, hev, hmk, hM, hMK, hTI, hFS, htd, hlt, (show rgI (F_18 3) 0 1000000 120 from (by assumption)), rgS, rgY, hdr, hit, hmmk, heq, htq, hrel⟩) hRT hP hD hS (lv_sub hl [0, 1, 2, 3] rfl)
set_option maxHeartbeats 40000000 in
set_option maxRecDepth 100000 in
theorem law_c52 {p : Program} {e : Env} {s : State} {m : MethodId} {below : List Frame} {meth : Method} {c : Code} (l : Launch) {b L : Nat} {xs : Nat → Int32} {A : Nat → Prop} {D : va_G} {k : Nat → ClassId} {sa sv : Nat} {i : Int} (C : LFX p s m meth c b L xs A D k sa sv) (hi : 0 ≤ i ∧ i + 6 ≤ (L : Int)) (hk : LAT p l e s m below meth c b A D k 2846 i) : LAT p l e s m below meth c b A D k 2160 i := by
  obtain ⟨hx, hb, hr, hml, hown, hts, hKK, hX, hbl, hbA, hA, hAf, hlocks, hSY, hRR, hL⟩ := id C
  intro a IA LA FA QA VA IB LB FB QB VB IC LC FC QC VC ID LD FD QD VD IR LR FR QR VR r H locs ls hI hRT hP hD hS hl
  have hK := hKK.1
  obtain ⟨hP, hD⟩ : PD D A ((GA k a IA LA FA QA VA r) ++ ((GB k a IB LB FB QB VB r) ++ ((GC k a IC LC FC QC VC r) ++ ((GD k a ID LD FD QD VD r) ++ ((GR k a IR LR FR QR VR r) ++ (r.tl)))))) H := ⟨hP, hD⟩
  obtain ⟨hWI, hWI_0, hWI_1, hWI_2, hrd, htr0, htr1, htr2, htr3, hrgk, hrgt, hdrc, hev, hmk, hM, hMK, hTI, hFS, htd, hlt, rgH, rgS, rgY, hdr, hit, hmmk, heq, htq, hrel⟩ := id hI
  obtain ⟨gw1, gw2, gw3, gw4, gw5, gw6, gw7, gw8, gw9, gw10, gw11⟩ := id hWI
  have hx0 := gw9
  have hYI := gw11
  obtain ⟨z1, hz1, hz1a, hz1b⟩ := i32_z (xs (iZ (i + 1)).toNatClampNeg)
  obtain ⟨z2, hz2, hz2a, hz2b⟩ := i32_z (xs (iZ (i + 2)).toNatClampNeg)
  obtain ⟨z3, hz3, hz3a, hz3b⟩ := i32_z (xs (iZ (i + 3)).toNatClampNeg)
  obtain ⟨z4, hz4, hz4a, hz4b⟩ := i32_z (xs (iZ (i + 4)).toNatClampNeg)
  obtain ⟨z5, hz5, hz5a, hz5b⟩ := i32_z (xs (iZ (i + 5)).toNatClampNeg)
  have hl : lv_has ls 4 [(3, .int (iZ i)), (2, .ref (a 106)), (1, .ref (a 0)), (0, .ref b)] := hl
  refine lv_aload_n hx hb dL_law_2160 rfl (lv_at hl 2 rfl) ?_
  refine lv_aload_n hx hb dL_law_2161 rfl (lv_at hl 3 rfl) ?_
  refine lv_iload_n hx hb dL_law_2162 rfl (lv_at hl 0 rfl) ?_
  refine lv_iconst (v := iZ 1) hx hb dL_law_2163 (by decide) ?_
  refine lv_iadd hx hb dL_law_2164 ?_
  refine lv_topi (fun x_1 ex_1 => ?_)
  obtain rfl : x_1 = iZ (i + 1) := ex_1.trans (iZ_add i 1)
  refine va_sld hx hb hX hbl hbA hS (zin (e := (i + 1)) (n := L) ⟨by omega, by omega⟩ (by omega)) dL_law_2165 ?_
  refine lv_topi (fun x_2 ex_2 => ?_)
  obtain rfl : x_2 = iZ z1 := ex_2.trans hz1
  refine lv_aload_n hx hb dL_law_2166 rfl (lv_at hl 3 rfl) ?_
  refine lv_iload_n hx hb dL_law_2167 rfl (lv_at hl 0 rfl) ?_
  refine lv_iconst (v := iZ 2) hx hb dL_law_2168 (by decide) ?_
  refine lv_iadd hx hb dL_law_2169 ?_
  refine lv_topi (fun x_3 ex_3 => ?_)
  obtain rfl : x_3 = iZ (i + 2) := ex_3.trans (iZ_add i 2)
  refine va_sld hx hb hX hbl hbA hS (zin (e := (i + 2)) (n := L) ⟨by omega, by omega⟩ (by omega)) dL_law_2170 ?_
  refine lv_topi (fun x_4 ex_4 => ?_)
  obtain rfl : x_4 = iZ z2 := ex_4.trans hz2
  obtain ⟨hP, hD⟩ := PD.mid4 ⟨hP, hD⟩
  refine CXM (mid := (GB k a IB LB FB QB VB r) ++ ((GC k a IC LC FC QC VC r) ++ ((GD k a ID LD FD QD VD r) ++ ((GR k a IR LR FR QR VR r))))) (c0 := 123) (s0 := 16705) (r := r) (As := [.int (iZ z1), .int (iZ z2)]) (rest := []) hx hb hml hown hts hKK hP hD hS hA (p_confirmed l D k (a 0) (a 1) (a 2) (a 3) (a 4) (a 5) (a 6) (a 7) (a 8) (a 9) (a 10) (a 11) (IA 0) (IA 1) (IA 2) (LA 0) (LA 1) ([.ref (a 26), .ref (a 27), .ref (a 28), .int (iZ (IA 3)), .int (iZ (IA 4)), .int (iZ (IA 5)), .int (iZ (IA 6))]) (a 23) (a 27) (a 28) (a 24) (a 25) (IA 3) (IA 4) (IA 5) (FA 0) (FA 1) (a 29) (a 30) (a 31) (a 32) (IA 7) (IA 8) (FA 2) (FA 3) (FA 4) (FA 5) z1 z2 r hRT rfl rfl rfl rfl rfl (by omega) hx0 ⟨by omega, by omega⟩ (by omega) ⟨by omega, by omega⟩ ⟨by omega, by omega⟩ ⟨by omega, by omega⟩ gw10 ⟨by omega, by omega⟩ ⟨by omega, by omega⟩) ci_X11_confirmed qm_L_234 ⟨Nat.le_of_ble_eq_true rfl, Nat.le_of_ble_eq_true rfl⟩ ⟨Nat.le_of_ble_eq_true rfl, Nat.le_of_ble_eq_true rfl⟩ [0, 1, 3, 8, 9, 10, 11, 17, 2, 6, 7] [4, 5, 12, 13, 14, 15, 16, 18, 19, 20, 21, 22, 23, 24, 25] rfl rfl rfl (by decide +kernel) (by decide +kernel) (by decide +kernel) 0 rfl rfl rfl hl.1 rfl (Nat.le_of_ble_eq_true rfl) dL_law_2171 (fun u_5 H locs hφ hP hD hS => ?_)
  obtain ⟨r_10, I_6, L_7, F_8, G_9⟩ := u_5
  have rtr_10 : RT k r_10 := hφ
  obtain ⟨hP, hD⟩ := PD.dim4 ⟨hP, hD⟩
  obtain ⟨hP, hD⟩ := PD.by2 (is := [15, 16, 23, 17, 0, 1, 24, 25, 18, 19, 20, 21, 2, 3, 4, 5, 6, 22, 7, 8, 9, 10, 11, 12, 13, 14]) (y := (GA k a (fun i => [(IA 0), (IA 1), (I_6 1), (IA 3), (IA 4), (IA 5), (IA 6), (IA 7), (IA 8), (IA 9), (IA 10), (IA 11), (IA 12), (IA 13), (IA 14), (IA 15), (IA 16), (IA 17), (IA 18)].getD i 0) LA FA QA VA r_10)) ⟨hP, hD⟩ (by decide +kernel) rfl
  refine W.ceq (cells' := 123 + cz true r_10.b) (slots' := 16705 + sz true r_10.b) rfl rfl ?_
  refine W.eq (g2 := F0 m 2174 ls [.int (iZ (I_6 0))]) rfl ?_
  refine lv_pop hx hb dL_law_2174 rfl ?_
  refine lv_aload_n hx hb dL_law_2175 rfl (lv_at hl 1 rfl) ?_
  refine lv_aload_n hx hb dL_law_2176 rfl (lv_at hl 3 rfl) ?_
  refine lv_iload_n hx hb dL_law_2177 rfl (lv_at hl 0 rfl) ?_
  refine lv_iconst (v := iZ 1) hx hb dL_law_2178 (by decide) ?_
  refine lv_iadd hx hb dL_law_2179 ?_
  refine lv_topi (fun x_11 ex_11 => ?_)
  obtain rfl : x_11 = iZ (i + 1) := ex_11.trans (iZ_add i 1)
  refine va_sld hx hb hX hbl hbA hS (zin (e := (i + 1)) (n := L) ⟨by omega, by omega⟩ (by omega)) dL_law_2180 ?_
  refine lv_topi (fun x_12 ex_12 => ?_)
  obtain rfl : x_12 = iZ z1 := ex_12.trans hz1
  refine lv_aload_n hx hb dL_law_2181 rfl (lv_at hl 3 rfl) ?_
  refine lv_iload_n hx hb dL_law_2182 rfl (lv_at hl 0 rfl) ?_
  refine lv_iconst (v := iZ 2) hx hb dL_law_2183 (by decide) ?_
  refine lv_iadd hx hb dL_law_2184 ?_
  refine lv_topi (fun x_13 ex_13 => ?_)
  obtain rfl : x_13 = iZ (i + 2) := ex_13.trans (iZ_add i 2)
  refine va_sld hx hb hX hbl hbA hS (zin (e := (i + 2)) (n := L) ⟨by omega, by omega⟩ (by omega)) dL_law_2185 ?_
  refine lv_topi (fun x_14 ex_14 => ?_)
  obtain rfl : x_14 = iZ z2 := ex_14.trans hz2
  obtain ⟨hP, hD⟩ := PD.fr5 ⟨hP, hD⟩
  refine CKV2 (As := [.int (iZ z1), .int (iZ z2)]) (rest := []) (tl := (GA k a (fun i => [(IA 0), (IA 1), (I_6 1), (IA 3), (IA 4), (IA 5), (IA 6), (IA 7), (IA 8), (IA 9), (IA 10), (IA 11), (IA 12), (IA 13), (IA 14), (IA 15), (IA 16), (IA 17), (IA 18)].getD i 0) LA FA QA VA r_10) ++ ((GB k a IB LB FB QB VB r) ++ ((GC k a IC LC FC QC VC r) ++ ((GD k a ID LD FD QD VD r) ++ (r_10.tl))))) hx hb hml hown hts hKK hP hD hS hA (q_confirmed l D k (a 106) (a 107) (a 108) (a 109) (a 110) (a 111) (a 112) (a 113) (a 114) (a 115) (a 116) (a 117) (a 118) (a 119) (a 120) (a 121) (a 122) (IR 0) (IR 1) (IR 2) (IR 3) (IR 4) (IR 5) (IR 6) (IR 7) (IR 8) (IR 9) (IR 10) (IR 11) (IR 12) (IR 13) (IR 14) (IR 15) (IR 16) (IR 17) (LR 0) (LR 1) (FR 0) (FR 6) (FR 7) (FR 8) (FR 9) z1 z2 hM rgH ⟨by omega, by omega⟩ ⟨by omega, by omega⟩) ci_X12_confirmed qm_L_237 ⟨Nat.le_of_ble_eq_true rfl, Nat.le_of_ble_eq_true rfl⟩ (lroom _) [0, 1, 9, 10, 11, 12] [2, 3, 4, 5, 6, 7, 8, 13, 14, 15, 16] rfl rfl rfl (by decide +kernel) (by decide +kernel) (by decide +kernel) 0 rfl rfl rfl hl.1 rfl (Nat.le_of_ble_eq_true rfl) dL_law_2186 (fun u_15 H locs hφ hP hD hS => ?_)
  obtain ⟨I_16, L_17, F_18, G_19⟩ := u_15
  have p_21 : rgI (F_18 3) 0 1000000 120 := hφ
  obtain ⟨hP, hD⟩ := PD.by2 (is := [11, 12, 0, 1, 2, 3, 4, 5, 6, 13, 14, 15, 16, 7, 8, 9, 10]) (y := (GR k a (fun i => [(I_16 1), (IR 1), (IR 2), (IR 3), (IR 4), (IR 5), (IR 6), (IR 7), (IR 8), (IR 9), (IR 10), (IR 11), (IR 12), (IR 13), (IR 14), (IR 15), (IR 16), (IR 17)].getD i 0) LR (fun i => [(FR 0), (FR 1), (FR 2), (FR 3), (FR 4), (FR 5), (F_18 0), (F_18 1), (F_18 2), (F_18 3), (FR 10), (FR 11), (FR 12), (FR 13)].getD i (fun _ => 0)) QR VR r_10)) ⟨hP, hD⟩ (by decide +kernel) rfl
  refine W.eq (g2 := F0 m 2189 ls [.int (iZ (I_16 0))]) rfl ?_
  refine lv_pop hx hb dL_law_2189 rfl ?_
  refine lv_goto (tgt := 2846) hx hb dL_law_2190 (by decide) ?_
  obtain ⟨hP, hD⟩ := PD.fr5 ⟨hP, hD⟩
  obtain ⟨hP, hD⟩ := PD.fr5 ⟨hP, hD⟩
  obtain ⟨hP, hD⟩ := PD.fr5 ⟨hP, hD⟩
  obtain ⟨hP, hD⟩ := PD.fr5 ⟨hP, hD⟩
  exact hk a (fun i => [(IA 0), (IA 1), (I_6 1), (IA 3), (IA 4), (IA 5), (IA 6), (IA 7), (IA 8), (IA 9), (IA 10), (IA 11), (IA 12), (IA 13), (IA 14), (IA 15), (IA 16), (IA 17), (IA 18)].getD i 0) LA FA QA VA IB LB FB QB VB IC LC FC QC VC ID LD FD QD VD (fun i => [(I_16 1), (IR 1), (IR 2), (IR 3), (IR 4), (IR 5), (IR 6), (IR 7), (IR 8), (IR 9), (IR 10), (IR 11), (IR 12), (IR 13), (IR 14), (IR 15), (IR 16), (IR 17)].getD i 0) LR (fun i => [(FR 0), (FR 1), (FR 2), (FR 3), (FR 4), (FR 5), (F_18 0), (F_18 1), (F_18 2), (F_18 3), (FR 10), (FR 11), (FR 12), (FR 13)].getD i (fun _ => 0)) QR VR r_10 H locs ls (show INV _ _ _ _ _ _ _ _ _ _ from ⟨hWI, hWI_0, hWI_1, hWI_2, hrd, htr0, htr1, htr2, htr3, hrgk, hrgt, hdrc, hev, hmk, hM, hMK, hTI, hFS, htd, hlt, (show rgI (F_18 3) 0 1000000 120 from (by assumption)), rgS, rgY, hdr, hit, hmmk, heq, htq, hrel⟩) rtr_10 hP hD hS (lv_sub hl [0, 1, 2, 3] rfl)
set_option maxHeartbeats 40000000 in
set_option maxRecDepth 100000 in
theorem law_c53 {p : Program} {e : Env} {s : State} {m : MethodId} {below : List Frame} {meth : Method} {c : Code} (l : Launch) {b L : Nat} {xs : Nat → Int32} {A : Nat → Prop} {D : va_G} {k : Nat → ClassId} {sa sv : Nat} {i : Int} (C : LFX p s m meth c b L xs A D k sa sv) (hi : 0 ≤ i ∧ i + 6 ≤ (L : Int)) (hk : LAT p l e s m below meth c b A D k 2846 i) : LAT p l e s m below meth c b A D k 2193 i := by
  obtain ⟨hx, hb, hr, hml, hown, hts, hKK, hX, hbl, hbA, hA, hAf, hlocks, hSY, hRR, hL⟩ := id C
  intro a IA LA FA QA VA IB LB FB QB VB IC LC FC QC VC ID LD FD QD VD IR LR FR QR VR r H locs ls hI hRT hP hD hS hl
  have hK := hKK.1
  obtain ⟨hP, hD⟩ : PD D A ((GA k a IA LA FA QA VA r) ++ ((GB k a IB LB FB QB VB r) ++ ((GC k a IC LC FC QC VC r) ++ ((GD k a ID LD FD QD VD r) ++ ((GR k a IR LR FR QR VR r) ++ (r.tl)))))) H := ⟨hP, hD⟩
  obtain ⟨hWI, hWI_0, hWI_1, hWI_2, hrd, htr0, htr1, htr2, htr3, hrgk, hrgt, hdrc, hev, hmk, hM, hMK, hTI, hFS, htd, hlt, rgH, rgS, rgY, hdr, hit, hmmk, heq, htq, hrel⟩ := id hI
  obtain ⟨gw1, gw2, gw3, gw4, gw5, gw6, gw7, gw8, gw9, gw10, gw11⟩ := id hWI
  have hx0 := gw9
  have hYI := gw11
  obtain ⟨z1, hz1, hz1a, hz1b⟩ := i32_z (xs (iZ (i + 1)).toNatClampNeg)
  obtain ⟨z2, hz2, hz2a, hz2b⟩ := i32_z (xs (iZ (i + 2)).toNatClampNeg)
  obtain ⟨z3, hz3, hz3a, hz3b⟩ := i32_z (xs (iZ (i + 3)).toNatClampNeg)
  obtain ⟨z4, hz4, hz4a, hz4b⟩ := i32_z (xs (iZ (i + 4)).toNatClampNeg)
  obtain ⟨z5, hz5, hz5a, hz5b⟩ := i32_z (xs (iZ (i + 5)).toNatClampNeg)
  have hl : lv_has ls 4 [(3, .int (iZ i)), (2, .ref (a 106)), (1, .ref (a 0)), (0, .ref b)] := hl
  refine lv_aload_n hx hb dL_law_2193 rfl (lv_at hl 2 rfl) ?_
  refine lv_aload_n hx hb dL_law_2194 rfl (lv_at hl 3 rfl) ?_
  refine lv_iload_n hx hb dL_law_2195 rfl (lv_at hl 0 rfl) ?_
  refine lv_iconst (v := iZ 1) hx hb dL_law_2196 (by decide) ?_
  refine lv_iadd hx hb dL_law_2197 ?_
  refine lv_topi (fun x_1 ex_1 => ?_)
  obtain rfl : x_1 = iZ (i + 1) := ex_1.trans (iZ_add i 1)
  refine va_sld hx hb hX hbl hbA hS (zin (e := (i + 1)) (n := L) ⟨by omega, by omega⟩ (by omega)) dL_law_2198 ?_
  refine lv_topi (fun x_2 ex_2 => ?_)
  obtain rfl : x_2 = iZ z1 := ex_2.trans hz1
  refine lv_aload_n hx hb dL_law_2199 rfl (lv_at hl 3 rfl) ?_
  refine lv_iload_n hx hb dL_law_2200 rfl (lv_at hl 0 rfl) ?_
  refine lv_iconst (v := iZ 2) hx hb dL_law_2201 (by decide) ?_
  refine lv_iadd hx hb dL_law_2202 ?_
  refine lv_topi (fun x_3 ex_3 => ?_)
  obtain rfl : x_3 = iZ (i + 2) := ex_3.trans (iZ_add i 2)
  refine va_sld hx hb hX hbl hbA hS (zin (e := (i + 2)) (n := L) ⟨by omega, by omega⟩ (by omega)) dL_law_2203 ?_
  refine lv_topi (fun x_4 ex_4 => ?_)
  obtain rfl : x_4 = iZ z2 := ex_4.trans hz2
  refine lv_aload_n hx hb dL_law_2204 rfl (lv_at hl 3 rfl) ?_
  refine lv_iload_n hx hb dL_law_2205 rfl (lv_at hl 0 rfl) ?_
  refine lv_iconst (v := iZ 3) hx hb dL_law_2206 (by decide) ?_
  refine lv_iadd hx hb dL_law_2207 ?_
  refine lv_topi (fun x_5 ex_5 => ?_)
  obtain rfl : x_5 = iZ (i + 3) := ex_5.trans (iZ_add i 3)
  refine va_sld hx hb hX hbl hbA hS (zin (e := (i + 3)) (n := L) ⟨by omega, by omega⟩ (by omega)) dL_law_2208 ?_
  refine lv_topi (fun x_6 ex_6 => ?_)
  obtain rfl : x_6 = iZ z3 := ex_6.trans hz3
  obtain ⟨hP, hD⟩ := PD.mid4 ⟨hP, hD⟩
  refine CXM (mid := (GB k a IB LB FB QB VB r) ++ ((GC k a IC LC FC QC VC r) ++ ((GD k a ID LD FD QD VD r) ++ ((GR k a IR LR FR QR VR r))))) (c0 := 123) (s0 := 16705) (r := r) (As := [.int (iZ z1), .int (iZ z2), .int (iZ z3)]) (rest := []) hx hb hml hown hts hKK hP hD hS hA (p_sure l D k (a 0) (a 1) (a 2) (a 3) (a 4) (a 5) (a 6) (a 7) (a 8) (a 9) (a 10) (a 11) (IA 0) (IA 1) (IA 2) (LA 0) (LA 1) ([.ref (a 26), .ref (a 27), .ref (a 28), .int (iZ (IA 3)), .int (iZ (IA 4)), .int (iZ (IA 5)), .int (iZ (IA 6))]) (a 23) (a 27) (a 28) (a 24) (a 25) (IA 3) (IA 4) (IA 5) (FA 0) (FA 1) (a 29) (a 30) (a 31) (a 32) (IA 7) (IA 8) (FA 2) (FA 3) (FA 4) (FA 5) z1 z2 z3 r hRT rfl rfl rfl rfl rfl (by omega) hx0 ⟨by omega, by omega⟩ (by omega) ⟨by omega, by omega⟩ ⟨by omega, by omega⟩ ⟨by omega, by omega⟩ gw10 ⟨by omega, by omega⟩ ⟨by omega, by omega⟩ ⟨by omega, by omega⟩) ci_X11_sure qm_L_238 ⟨Nat.le_of_ble_eq_true rfl, Nat.le_of_ble_eq_true rfl⟩ ⟨Nat.le_of_ble_eq_true rfl, Nat.le_of_ble_eq_true rfl⟩ [0, 1, 3, 8, 9, 10, 11, 17, 2, 6, 7] [4, 5, 12, 13, 14, 15, 16, 18, 19, 20, 21, 22, 23, 24, 25] rfl rfl rfl (by decide +kernel) (by decide +kernel) (by decide +kernel) 0 rfl rfl rfl hl.1 rfl (Nat.le_of_ble_eq_true rfl) dL_law_2209 (fun u_7 H locs hφ hP hD hS => ?_)
  obtain ⟨r_12, I_8, L_9, F_10, G_11⟩ := u_7
  have rtr_12 : RT k r_12 := hφ
  obtain ⟨hP, hD⟩ := PD.dim4 ⟨hP, hD⟩
  obtain ⟨hP, hD⟩ := PD.by2 (is := [15, 16, 23, 17, 0, 1, 24, 25, 18, 19, 20, 21, 2, 3, 4, 5, 6, 22, 7, 8, 9, 10, 11, 12, 13, 14]) (y := (GA k a (fun i => [(IA 0), (IA 1), (I_8 1), (IA 3), (IA 4), (IA 5), (IA 6), (IA 7), (IA 8), (IA 9), (IA 10), (IA 11), (IA 12), (IA 13), (IA 14), (IA 15), (IA 16), (IA 17), (IA 18)].getD i 0) LA FA QA VA r_12)) ⟨hP, hD⟩ (by decide +kernel) rfl
  refine W.ceq (cells' := 123 + cz true r_12.b) (slots' := 16705 + sz true r_12.b) rfl rfl ?_
  refine W.eq (g2 := F0 m 2212 ls [.int (iZ (I_8 0))]) rfl ?_
  refine lv_pop hx hb dL_law_2212 rfl ?_
  refine lv_aload_n hx hb dL_law_2213 rfl (lv_at hl 1 rfl) ?_
  refine lv_aload_n hx hb dL_law_2214 rfl (lv_at hl 3 rfl) ?_
  refine lv_iload_n hx hb dL_law_2215 rfl (lv_at hl 0 rfl) ?_
  refine lv_iconst (v := iZ 1) hx hb dL_law_2216 (by decide) ?_
  refine lv_iadd hx hb dL_law_2217 ?_
  refine lv_topi (fun x_13 ex_13 => ?_)
  obtain rfl : x_13 = iZ (i + 1) := ex_13.trans (iZ_add i 1)
  refine va_sld hx hb hX hbl hbA hS (zin (e := (i + 1)) (n := L) ⟨by omega, by omega⟩ (by omega)) dL_law_2218 ?_
  refine lv_topi (fun x_14 ex_14 => ?_)
  obtain rfl : x_14 = iZ z1 := ex_14.trans hz1
  refine lv_aload_n hx hb dL_law_2219 rfl (lv_at hl 3 rfl) ?_
  refine lv_iload_n hx hb dL_law_2220 rfl (lv_at hl 0 rfl) ?_
  refine lv_iconst (v := iZ 2) hx hb dL_law_2221 (by decide) ?_
  refine lv_iadd hx hb dL_law_2222 ?_
  refine lv_topi (fun x_15 ex_15 => ?_)
  obtain rfl : x_15 = iZ (i + 2) := ex_15.trans (iZ_add i 2)
  refine va_sld hx hb hX hbl hbA hS (zin (e := (i + 2)) (n := L) ⟨by omega, by omega⟩ (by omega)) dL_law_2223 ?_
  refine lv_topi (fun x_16 ex_16 => ?_)
  obtain rfl : x_16 = iZ z2 := ex_16.trans hz2
  refine lv_aload_n hx hb dL_law_2224 rfl (lv_at hl 3 rfl) ?_
  refine lv_iload_n hx hb dL_law_2225 rfl (lv_at hl 0 rfl) ?_
  refine lv_iconst (v := iZ 3) hx hb dL_law_2226 (by decide) ?_
  refine lv_iadd hx hb dL_law_2227 ?_
  refine lv_topi (fun x_17 ex_17 => ?_)
  obtain rfl : x_17 = iZ (i + 3) := ex_17.trans (iZ_add i 3)
  refine va_sld hx hb hX hbl hbA hS (zin (e := (i + 3)) (n := L) ⟨by omega, by omega⟩ (by omega)) dL_law_2228 ?_
  refine lv_topi (fun x_18 ex_18 => ?_)
  obtain rfl : x_18 = iZ z3 := ex_18.trans hz3
  obtain ⟨hP, hD⟩ := PD.fr5 ⟨hP, hD⟩
  refine CKV2 (As := [.int (iZ z1), .int (iZ z2), .int (iZ z3)]) (rest := []) (tl := (GA k a (fun i => [(IA 0), (IA 1), (I_8 1), (IA 3), (IA 4), (IA 5), (IA 6), (IA 7), (IA 8), (IA 9), (IA 10), (IA 11), (IA 12), (IA 13), (IA 14), (IA 15), (IA 16), (IA 17), (IA 18)].getD i 0) LA FA QA VA r_12) ++ ((GB k a IB LB FB QB VB r) ++ ((GC k a IC LC FC QC VC r) ++ ((GD k a ID LD FD QD VD r) ++ (r_12.tl))))) hx hb hml hown hts hKK hP hD hS hA (q_sure l D k (a 106) (a 107) (a 108) (a 109) (a 110) (a 111) (a 112) (a 113) (a 114) (a 115) (a 116) (a 117) (a 118) (a 119) (a 120) (a 121) (a 122) (IR 0) (IR 1) (IR 2) (IR 3) (IR 4) (IR 5) (IR 6) (IR 7) (IR 8) (IR 9) (IR 10) (IR 11) (IR 12) (IR 13) (IR 14) (IR 15) (IR 16) (IR 17) (LR 0) (LR 1) (FR 0) (FR 6) (FR 7) (FR 8) (FR 9) z1 z2 z3 hM rgH ⟨by omega, by omega⟩ ⟨by omega, by omega⟩ ⟨by omega, by omega⟩) ci_X12_sure qm_L_241 ⟨Nat.le_of_ble_eq_true rfl, Nat.le_of_ble_eq_true rfl⟩ (lroom _) [0, 1, 9, 10, 11, 12] [2, 3, 4, 5, 6, 7, 8, 13, 14, 15, 16] rfl rfl rfl (by decide +kernel) (by decide +kernel) (by decide +kernel) 0 rfl rfl rfl hl.1 rfl (Nat.le_of_ble_eq_true rfl) dL_law_2229 (fun u_19 H locs hφ hP hD hS => ?_)
  obtain ⟨I_20, L_21, F_22, G_23⟩ := u_19
  have p_25 : rgI (F_22 3) 0 1000000 120 := hφ
  obtain ⟨hP, hD⟩ := PD.by2 (is := [11, 12, 0, 1, 2, 3, 4, 5, 6, 13, 14, 15, 16, 7, 8, 9, 10]) (y := (GR k a (fun i => [(I_20 1), (IR 1), (IR 2), (IR 3), (IR 4), (IR 5), (IR 6), (IR 7), (IR 8), (IR 9), (IR 10), (IR 11), (IR 12), (IR 13), (IR 14), (IR 15), (IR 16), (IR 17)].getD i 0) LR (fun i => [(FR 0), (FR 1), (FR 2), (FR 3), (FR 4), (FR 5), (F_22 0), (F_22 1), (F_22 2), (F_22 3), (FR 10), (FR 11), (FR 12), (FR 13)].getD i (fun _ => 0)) QR VR r_12)) ⟨hP, hD⟩ (by decide +kernel) rfl
  refine W.eq (g2 := F0 m 2232 ls [.int (iZ (I_20 0))]) rfl ?_
  refine lv_pop hx hb dL_law_2232 rfl ?_
  refine lv_goto (tgt := 2846) hx hb dL_law_2233 (by decide) ?_
  obtain ⟨hP, hD⟩ := PD.fr5 ⟨hP, hD⟩
  obtain ⟨hP, hD⟩ := PD.fr5 ⟨hP, hD⟩
  obtain ⟨hP, hD⟩ := PD.fr5 ⟨hP, hD⟩
  obtain ⟨hP, hD⟩ := PD.fr5 ⟨hP, hD⟩
  exact hk a (fun i => [(IA 0), (IA 1), (I_8 1), (IA 3), (IA 4), (IA 5), (IA 6), (IA 7), (IA 8), (IA 9), (IA 10), (IA 11), (IA 12), (IA 13), (IA 14), (IA 15), (IA 16), (IA 17), (IA 18)].getD i 0) LA FA QA VA IB LB FB QB VB IC LC FC QC VC ID LD FD QD VD (fun i => [(I_20 1), (IR 1), (IR 2), (IR 3), (IR 4), (IR 5), (IR 6), (IR 7), (IR 8), (IR 9), (IR 10), (IR 11), (IR 12), (IR 13), (IR 14), (IR 15), (IR 16), (IR 17)].getD i 0) LR (fun i => [(FR 0), (FR 1), (FR 2), (FR 3), (FR 4), (FR 5), (F_22 0), (F_22 1), (F_22 2), (F_22 3), (FR 10), (FR 11), (FR 12), (FR 13)].getD i (fun _ => 0)) QR VR r_12 H locs ls (show INV _ _ _ _ _ _ _ _ _ _ from ⟨hWI, hWI_0, hWI_1, hWI_2, hrd, htr0, htr1, htr2, htr3, hrgk, hrgt, hdrc, hev, hmk, hM, hMK, hTI, hFS, htd, hlt, (show rgI (F_22 3) 0 1000000 120 from (by assumption)), rgS, rgY, hdr, hit, hmmk, heq, htq, hrel⟩) rtr_12 hP hD hS (lv_sub hl [0, 1, 2, 3] rfl)
set_option maxHeartbeats 40000000 in
set_option maxRecDepth 100000 in
theorem law_c54 {p : Program} {e : Env} {s : State} {m : MethodId} {below : List Frame} {meth : Method} {c : Code} (l : Launch) {b L : Nat} {xs : Nat → Int32} {A : Nat → Prop} {D : va_G} {k : Nat → ClassId} {sa sv : Nat} {i : Int} (C : LFX p s m meth c b L xs A D k sa sv) (hi : 0 ≤ i ∧ i + 6 ≤ (L : Int)) (hk : LAT p l e s m below meth c b A D k 2846 i) : LAT p l e s m below meth c b A D k 2236 i := by
  obtain ⟨hx, hb, hr, hml, hown, hts, hKK, hX, hbl, hbA, hA, hAf, hlocks, hSY, hRR, hL⟩ := id C
  intro a IA LA FA QA VA IB LB FB QB VB IC LC FC QC VC ID LD FD QD VD IR LR FR QR VR r H locs ls hI hRT hP hD hS hl
  have hK := hKK.1
  obtain ⟨hP, hD⟩ : PD D A ((GA k a IA LA FA QA VA r) ++ ((GB k a IB LB FB QB VB r) ++ ((GC k a IC LC FC QC VC r) ++ ((GD k a ID LD FD QD VD r) ++ ((GR k a IR LR FR QR VR r) ++ (r.tl)))))) H := ⟨hP, hD⟩
  obtain ⟨hWI, hWI_0, hWI_1, hWI_2, hrd, htr0, htr1, htr2, htr3, hrgk, hrgt, hdrc, hev, hmk, hM, hMK, hTI, hFS, htd, hlt, rgH, rgS, rgY, hdr, hit, hmmk, heq, htq, hrel⟩ := id hI
  obtain ⟨gw1, gw2, gw3, gw4, gw5, gw6, gw7, gw8, gw9, gw10, gw11⟩ := id hWI
  have hx0 := gw9
  have hYI := gw11
  obtain ⟨z1, hz1, hz1a, hz1b⟩ := i32_z (xs (iZ (i + 1)).toNatClampNeg)
  obtain ⟨z2, hz2, hz2a, hz2b⟩ := i32_z (xs (iZ (i + 2)).toNatClampNeg)
  obtain ⟨z3, hz3, hz3a, hz3b⟩ := i32_z (xs (iZ (i + 3)).toNatClampNeg)
  obtain ⟨z4, hz4, hz4a, hz4b⟩ := i32_z (xs (iZ (i + 4)).toNatClampNeg)
  obtain ⟨z5, hz5, hz5a, hz5b⟩ := i32_z (xs (iZ (i + 5)).toNatClampNeg)
  have hl : lv_has ls 4 [(3, .int (iZ i)), (2, .ref (a 106)), (1, .ref (a 0)), (0, .ref b)] := hl
  refine lv_aload_n hx hb dL_law_2236 rfl (lv_at hl 2 rfl) ?_
  refine lv_aload_n hx hb dL_law_2237 rfl (lv_at hl 3 rfl) ?_
  refine lv_iload_n hx hb dL_law_2238 rfl (lv_at hl 0 rfl) ?_
  refine lv_iconst (v := iZ 1) hx hb dL_law_2239 (by decide) ?_
  refine lv_iadd hx hb dL_law_2240 ?_
  refine lv_topi (fun x_1 ex_1 => ?_)
  obtain rfl : x_1 = iZ (i + 1) := ex_1.trans (iZ_add i 1)
  refine va_sld hx hb hX hbl hbA hS (zin (e := (i + 1)) (n := L) ⟨by omega, by omega⟩ (by omega)) dL_law_2241 ?_
  refine lv_topi (fun x_2 ex_2 => ?_)
  obtain rfl : x_2 = iZ z1 := ex_2.trans hz1
  refine lv_aload_n hx hb dL_law_2242 rfl (lv_at hl 3 rfl) ?_
  refine lv_iload_n hx hb dL_law_2243 rfl (lv_at hl 0 rfl) ?_
  refine lv_iconst (v := iZ 2) hx hb dL_law_2244 (by decide) ?_
  refine lv_iadd hx hb dL_law_2245 ?_
  refine lv_topi (fun x_3 ex_3 => ?_)
  obtain rfl : x_3 = iZ (i + 2) := ex_3.trans (iZ_add i 2)
  refine va_sld hx hb hX hbl hbA hS (zin (e := (i + 2)) (n := L) ⟨by omega, by omega⟩ (by omega)) dL_law_2246 ?_
  refine lv_topi (fun x_4 ex_4 => ?_)
  obtain rfl : x_4 = iZ z2 := ex_4.trans hz2
  refine lv_aload_n hx hb dL_law_2247 rfl (lv_at hl 3 rfl) ?_
  refine lv_iload_n hx hb dL_law_2248 rfl (lv_at hl 0 rfl) ?_
  refine lv_iconst (v := iZ 3) hx hb dL_law_2249 (by decide) ?_
  refine lv_iadd hx hb dL_law_2250 ?_
  refine lv_topi (fun x_5 ex_5 => ?_)
  obtain rfl : x_5 = iZ (i + 3) := ex_5.trans (iZ_add i 3)
  refine va_sld hx hb hX hbl hbA hS (zin (e := (i + 3)) (n := L) ⟨by omega, by omega⟩ (by omega)) dL_law_2251 ?_
  refine lv_topi (fun x_6 ex_6 => ?_)
  obtain rfl : x_6 = iZ z3 := ex_6.trans hz3
  refine lv_aload_n hx hb dL_law_2252 rfl (lv_at hl 3 rfl) ?_
  refine lv_iload_n hx hb dL_law_2253 rfl (lv_at hl 0 rfl) ?_
  refine lv_iconst (v := iZ 4) hx hb dL_law_2254 (by decide) ?_
  refine lv_iadd hx hb dL_law_2255 ?_
  refine lv_topi (fun x_7 ex_7 => ?_)
  obtain rfl : x_7 = iZ (i + 4) := ex_7.trans (iZ_add i 4)
  refine va_sld hx hb hX hbl hbA hS (zin (e := (i + 4)) (n := L) ⟨by omega, by omega⟩ (by omega)) dL_law_2256 ?_
  refine lv_topi (fun x_8 ex_8 => ?_)
  obtain rfl : x_8 = iZ z4 := ex_8.trans hz4
  obtain ⟨hP, hD⟩ := PD.mid4 ⟨hP, hD⟩
  refine CXM (mid := (GB k a IB LB FB QB VB r) ++ ((GC k a IC LC FC QC VC r) ++ ((GD k a ID LD FD QD VD r) ++ ((GR k a IR LR FR QR VR r))))) (c0 := 123) (s0 := 16705) (r := r) (As := [.int (iZ z1), .int (iZ z2), .int (iZ z3), .int (iZ z4)]) (rest := []) hx hb hml hown hts hKK hP hD hS hA (p_cheap l D k (a 0) (a 1) (a 2) (a 3) (a 4) (a 5) (a 6) (a 7) (a 8) (a 9) (a 10) (a 11) (IA 0) (IA 1) (IA 2) (LA 0) (LA 1) ([.ref (a 26), .ref (a 27), .ref (a 28), .int (iZ (IA 3)), .int (iZ (IA 4)), .int (iZ (IA 5)), .int (iZ (IA 6))]) (a 23) (a 27) (a 28) (a 24) (a 25) (IA 3) (IA 4) (IA 5) (FA 0) (FA 1) (a 101) (a 102) (a 103) (a 104) (FA 11) (FA 12) (FA 13) (FA 14) z1 z2 z3 z4 r hRT rfl rfl rfl rfl rfl (by omega) hx0 ⟨by omega, by omega⟩ (by omega) ⟨by omega, by omega⟩ hrgk hrgt ⟨by omega, by omega⟩ ⟨by omega, by omega⟩ ⟨by omega, by omega⟩ ⟨by omega, by omega⟩) ci_X11_cheap qm_L_242 ⟨Nat.le_of_ble_eq_true rfl, Nat.le_of_ble_eq_true rfl⟩ ⟨Nat.le_of_ble_eq_true rfl, Nat.le_of_ble_eq_true rfl⟩ [0, 1, 18, 17, 19, 20, 21, 22, 2, 6, 7] [3, 4, 5, 8, 9, 10, 11, 12, 13, 14, 15, 16, 23, 24, 25] rfl rfl rfl (by decide +kernel) (by decide +kernel) (by decide +kernel) 0 rfl rfl rfl hl.1 rfl (Nat.le_of_ble_eq_true rfl) dL_law_2257 (fun u_9 H locs hφ hP hD hS => ?_)
  obtain ⟨r_14, I_10, L_11, F_12, G_13⟩ := u_9
  obtain ⟨p_15, p_16, rtr_14⟩ : (rgI (F_12 0) (-1) 420 6) ∧ (rgI (F_12 1) (-1) 5 6) ∧ (RT k r_14) := hφ
  obtain ⟨hP, hD⟩ := PD.dim4 ⟨hP, hD⟩
  obtain ⟨hP, hD⟩ := PD.by2 (is := [15, 16, 23, 0, 1, 2, 24, 25, 3, 4, 5, 6, 7, 8, 9, 10, 11, 18, 17, 19, 20, 21, 22, 12, 13, 14]) (y := (GA k a (fun i => [(IA 0), (IA 1), (I_10 1), (IA 3), (IA 4), (IA 5), (IA 6), (IA 7), (IA 8), (IA 9), (IA 10), (IA 11), (IA 12), (IA 13), (IA 14), (IA 15), (IA 16), (IA 17), (IA 18)].getD i 0) LA (fun i => [(FA 0), (FA 1), (FA 2), (FA 3), (FA 4), (FA 5), (FA 6), (FA 7), (FA 8), (FA 9), (FA 10), (F_12 0), (F_12 1), (F_12 2), (F_12 3), (FA 15), (FA 16)].getD i (fun _ => 0)) QA VA r_14)) ⟨hP, hD⟩ (by decide +kernel) rfl
  refine W.ceq (cells' := 123 + cz true r_14.b) (slots' := 16705 + sz true r_14.b) rfl rfl ?_
  refine W.eq (g2 := F0 m 2260 ls [.int (iZ (I_10 0))]) rfl ?_
  refine lv_pop hx hb dL_law_2260 rfl ?_
  refine lv_aload_n hx hb dL_law_2261 rfl (lv_at hl 1 rfl) ?_
  refine lv_aload_n hx hb dL_law_2262 rfl (lv_at hl 3 rfl) ?_
  refine lv_iload_n hx hb dL_law_2263 rfl (lv_at hl 0 rfl) ?_
  refine lv_iconst (v := iZ 1) hx hb dL_law_2264 (by decide) ?_
  refine lv_iadd hx hb dL_law_2265 ?_
  refine lv_topi (fun x_17 ex_17 => ?_)
  obtain rfl : x_17 = iZ (i + 1) := ex_17.trans (iZ_add i 1)
  refine va_sld hx hb hX hbl hbA hS (zin (e := (i + 1)) (n := L) ⟨by omega, by omega⟩ (by omega)) dL_law_2266 ?_
  refine lv_topi (fun x_18 ex_18 => ?_)
  obtain rfl : x_18 = iZ z1 := ex_18.trans hz1
  refine lv_aload_n hx hb dL_law_2267 rfl (lv_at hl 3 rfl) ?_
  refine lv_iload_n hx hb dL_law_2268 rfl (lv_at hl 0 rfl) ?_
  refine lv_iconst (v := iZ 2) hx hb dL_law_2269 (by decide) ?_
  refine lv_iadd hx hb dL_law_2270 ?_
  refine lv_topi (fun x_19 ex_19 => ?_)
  obtain rfl : x_19 = iZ (i + 2) := ex_19.trans (iZ_add i 2)
  refine va_sld hx hb hX hbl hbA hS (zin (e := (i + 2)) (n := L) ⟨by omega, by omega⟩ (by omega)) dL_law_2271 ?_
  refine lv_topi (fun x_20 ex_20 => ?_)
  obtain rfl : x_20 = iZ z2 := ex_20.trans hz2
  refine lv_aload_n hx hb dL_law_2272 rfl (lv_at hl 3 rfl) ?_
  refine lv_iload_n hx hb dL_law_2273 rfl (lv_at hl 0 rfl) ?_
  refine lv_iconst (v := iZ 3) hx hb dL_law_2274 (by decide) ?_
  refine lv_iadd hx hb dL_law_2275 ?_
  refine lv_topi (fun x_21 ex_21 => ?_)
  obtain rfl : x_21 = iZ (i + 3) := ex_21.trans (iZ_add i 3)
  refine va_sld hx hb hX hbl hbA hS (zin (e := (i + 3)) (n := L) ⟨by omega, by omega⟩ (by omega)) dL_law_2276 ?_
  refine lv_topi (fun x_22 ex_22 => ?_)
  obtain rfl : x_22 = iZ z3 := ex_22.trans hz3
  refine lv_aload_n hx hb dL_law_2277 rfl (lv_at hl 3 rfl) ?_
  refine lv_iload_n hx hb dL_law_2278 rfl (lv_at hl 0 rfl) ?_
  refine lv_iconst (v := iZ 4) hx hb dL_law_2279 (by decide) ?_
  refine lv_iadd hx hb dL_law_2280 ?_
  refine lv_topi (fun x_23 ex_23 => ?_)
  obtain rfl : x_23 = iZ (i + 4) := ex_23.trans (iZ_add i 4)
  refine va_sld hx hb hX hbl hbA hS (zin (e := (i + 4)) (n := L) ⟨by omega, by omega⟩ (by omega)) dL_law_2281 ?_
  refine lv_topi (fun x_24 ex_24 => ?_)
  obtain rfl : x_24 = iZ z4 := ex_24.trans hz4
  obtain ⟨hP, hD⟩ := PD.fr5 ⟨hP, hD⟩
  refine CKV2 (As := [.int (iZ z1), .int (iZ z2), .int (iZ z3), .int (iZ z4)]) (rest := []) (tl := (GA k a (fun i => [(IA 0), (IA 1), (I_10 1), (IA 3), (IA 4), (IA 5), (IA 6), (IA 7), (IA 8), (IA 9), (IA 10), (IA 11), (IA 12), (IA 13), (IA 14), (IA 15), (IA 16), (IA 17), (IA 18)].getD i 0) LA (fun i => [(FA 0), (FA 1), (FA 2), (FA 3), (FA 4), (FA 5), (FA 6), (FA 7), (FA 8), (FA 9), (FA 10), (F_12 0), (F_12 1), (F_12 2), (F_12 3), (FA 15), (FA 16)].getD i (fun _ => 0)) QA VA r_14) ++ ((GB k a IB LB FB QB VB r) ++ ((GC k a IC LC FC QC VC r) ++ ((GD k a ID LD FD QD VD r) ++ (r_14.tl))))) hx hb hml hown hts hKK hP hD hS hA (q_cheap l D k (a 106) (a 107) (a 108) (a 109) (a 110) (a 111) (a 112) (a 113) (a 114) (a 115) (a 116) (a 117) (a 118) (a 119) (a 120) (a 121) (a 122) (IR 0) (IR 1) (IR 2) (IR 3) (IR 4) (IR 5) (IR 6) (IR 7) (IR 8) (IR 9) (IR 10) (IR 11) (IR 12) (IR 13) (IR 14) (IR 15) (IR 16) (IR 17) (LR 0) (LR 1) (FR 0) (FR 10) z1 z2 z3 z4 hM ⟨by omega, by omega⟩ ⟨by omega, by omega⟩ ⟨by omega, by omega⟩ ⟨by omega, by omega⟩) ci_X12_cheap qm_L_245 ⟨Nat.le_of_ble_eq_true rfl, Nat.le_of_ble_eq_true rfl⟩ (lroom _) [0, 1, 13] [2, 3, 4, 5, 6, 7, 8, 9, 10, 11, 12, 14, 15, 16] rfl rfl rfl (by decide +kernel) (by decide +kernel) (by decide +kernel) 0 rfl rfl rfl hl.1 rfl (Nat.le_of_ble_eq_true rfl) dL_law_2282 (fun u_25 H locs hφ hP hD hS => ?_)
  obtain ⟨I_26, L_27, F_28, G_29⟩ := u_25
  obtain ⟨hP, hD⟩ := PD.by2 (is := [14, 15, 0, 1, 2, 3, 4, 5, 6, 7, 8, 9, 10, 16, 11, 12, 13]) (y := (GR k a (fun i => [(I_26 1), (IR 1), (IR 2), (IR 3), (IR 4), (IR 5), (IR 6), (IR 7), (IR 8), (IR 9), (IR 10), (IR 11), (IR 12), (IR 13), (IR 14), (IR 15), (IR 16), (IR 17)].getD i 0) LR (fun i => [(FR 0), (FR 1), (FR 2), (FR 3), (FR 4), (FR 5), (FR 6), (FR 7), (FR 8), (FR 9), (F_28 0), (FR 11), (FR 12), (FR 13)].getD i (fun _ => 0)) QR VR r_14)) ⟨hP, hD⟩ (by decide +kernel) rfl
  refine W.eq (g2 := F0 m 2285 ls [.int (iZ (I_26 0))]) rfl ?_
  refine lv_pop hx hb dL_law_2285 rfl ?_
  refine lv_goto (tgt := 2846) hx hb dL_law_2286 (by decide) ?_
  obtain ⟨hP, hD⟩ := PD.fr5 ⟨hP, hD⟩
  obtain ⟨hP, hD⟩ := PD.fr5 ⟨hP, hD⟩
  obtain ⟨hP, hD⟩ := PD.fr5 ⟨hP, hD⟩
  obtain ⟨hP, hD⟩ := PD.fr5 ⟨hP, hD⟩
  exact hk a (fun i => [(IA 0), (IA 1), (I_10 1), (IA 3), (IA 4), (IA 5), (IA 6), (IA 7), (IA 8), (IA 9), (IA 10), (IA 11), (IA 12), (IA 13), (IA 14), (IA 15), (IA 16), (IA 17), (IA 18)].getD i 0) LA (fun i => [(FA 0), (FA 1), (FA 2), (FA 3), (FA 4), (FA 5), (FA 6), (FA 7), (FA 8), (FA 9), (FA 10), (F_12 0), (F_12 1), (F_12 2), (F_12 3), (FA 15), (FA 16)].getD i (fun _ => 0)) QA VA IB LB FB QB VB IC LC FC QC VC ID LD FD QD VD (fun i => [(I_26 1), (IR 1), (IR 2), (IR 3), (IR 4), (IR 5), (IR 6), (IR 7), (IR 8), (IR 9), (IR 10), (IR 11), (IR 12), (IR 13), (IR 14), (IR 15), (IR 16), (IR 17)].getD i 0) LR (fun i => [(FR 0), (FR 1), (FR 2), (FR 3), (FR 4), (FR 5), (FR 6), (FR 7), (FR 8), (FR 9), (F_28 0), (FR 11), (FR 12), (FR 13)].getD i (fun _ => 0)) QR VR r_14 H locs ls (show INV _ _ _ _ _ _ _ _ _ _ from ⟨hWI, hWI_0, hWI_1, hWI_2, hrd, htr0, htr1, htr2, htr3, (show rgI (F_12 0) (-1) 420 6 from (by assumption)), (show rgI (F_12 1) (-1) 5 6 from (by assumption)), hdrc, hev, hmk, hM, hMK, hTI, hFS, htd, hlt, rgH, rgS, rgY, hdr, hit, hmmk, heq, htq, hrel⟩) rtr_14 hP hD hS (lv_sub hl [0, 1, 2, 3] rfl)
set_option maxHeartbeats 40000000 in
set_option maxRecDepth 100000 in
theorem law_c55 {p : Program} {e : Env} {s : State} {m : MethodId} {below : List Frame} {meth : Method} {c : Code} (l : Launch) {b L : Nat} {xs : Nat → Int32} {A : Nat → Prop} {D : va_G} {k : Nat → ClassId} {sa sv : Nat} {i : Int} (C : LFX p s m meth c b L xs A D k sa sv) (hi : 0 ≤ i ∧ i + 6 ≤ (L : Int)) (hk : LAT p l e s m below meth c b A D k 2846 i) : LAT p l e s m below meth c b A D k 2289 i := by
  obtain ⟨hx, hb, hr, hml, hown, hts, hKK, hX, hbl, hbA, hA, hAf, hlocks, hSY, hRR, hL⟩ := id C
  intro a IA LA FA QA VA IB LB FB QB VB IC LC FC QC VC ID LD FD QD VD IR LR FR QR VR r H locs ls hI hRT hP hD hS hl
  have hK := hKK.1
  obtain ⟨hP, hD⟩ : PD D A ((GA k a IA LA FA QA VA r) ++ ((GB k a IB LB FB QB VB r) ++ ((GC k a IC LC FC QC VC r) ++ ((GD k a ID LD FD QD VD r) ++ ((GR k a IR LR FR QR VR r) ++ (r.tl)))))) H := ⟨hP, hD⟩
  obtain ⟨hWI, hWI_0, hWI_1, hWI_2, hrd, htr0, htr1, htr2, htr3, hrgk, hrgt, hdrc, hev, hmk, hM, hMK, hTI, hFS, htd, hlt, rgH, rgS, rgY, hdr, hit, hmmk, heq, htq, hrel⟩ := id hI
  obtain ⟨gw1, gw2, gw3, gw4, gw5, gw6, gw7, gw8, gw9, gw10, gw11⟩ := id hWI
  have hx0 := gw9
  have hYI := gw11
  obtain ⟨z1, hz1, hz1a, hz1b⟩ := i32_z (xs (iZ (i + 1)).toNatClampNeg)
  obtain ⟨z2, hz2, hz2a, hz2b⟩ := i32_z (xs (iZ (i + 2)).toNatClampNeg)
  obtain ⟨z3, hz3, hz3a, hz3b⟩ := i32_z (xs (iZ (i + 3)).toNatClampNeg)
  obtain ⟨z4, hz4, hz4a, hz4b⟩ := i32_z (xs (iZ (i + 4)).toNatClampNeg)
  obtain ⟨z5, hz5, hz5a, hz5b⟩ := i32_z (xs (iZ (i + 5)).toNatClampNeg)
  have hl : lv_has ls 4 [(3, .int (iZ i)), (2, .ref (a 106)), (1, .ref (a 0)), (0, .ref b)] := hl
  refine lv_aload_n hx hb dL_law_2289 rfl (lv_at hl 2 rfl) ?_
  refine lv_aload_n hx hb dL_law_2290 rfl (lv_at hl 3 rfl) ?_
  refine lv_iload_n hx hb dL_law_2291 rfl (lv_at hl 0 rfl) ?_
  refine lv_iconst (v := iZ 1) hx hb dL_law_2292 (by decide) ?_
  refine lv_iadd hx hb dL_law_2293 ?_
  refine lv_topi (fun x_1 ex_1 => ?_)
  obtain rfl : x_1 = iZ (i + 1) := ex_1.trans (iZ_add i 1)
  refine va_sld hx hb hX hbl hbA hS (zin (e := (i + 1)) (n := L) ⟨by omega, by omega⟩ (by omega)) dL_law_2294 ?_
  refine lv_topi (fun x_2 ex_2 => ?_)
  obtain rfl : x_2 = iZ z1 := ex_2.trans hz1
  refine lv_aload_n hx hb dL_law_2295 rfl (lv_at hl 3 rfl) ?_
  refine lv_iload_n hx hb dL_law_2296 rfl (lv_at hl 0 rfl) ?_
  refine lv_iconst (v := iZ 2) hx hb dL_law_2297 (by decide) ?_
  refine lv_iadd hx hb dL_law_2298 ?_
  refine lv_topi (fun x_3 ex_3 => ?_)
  obtain rfl : x_3 = iZ (i + 2) := ex_3.trans (iZ_add i 2)
  refine va_sld hx hb hX hbl hbA hS (zin (e := (i + 2)) (n := L) ⟨by omega, by omega⟩ (by omega)) dL_law_2299 ?_
  refine lv_topi (fun x_4 ex_4 => ?_)
  obtain rfl : x_4 = iZ z2 := ex_4.trans hz2
  refine CKV2 (As := [.int (iZ z1), .int (iZ z2)]) (rest := []) (tl := (GB k a IB LB FB QB VB r) ++ ((GC k a IC LC FC QC VC r) ++ ((GD k a ID LD FD QD VD r) ++ ((GR k a IR LR FR QR VR r) ++ (r.tl))))) hx hb hml hown hts hKK hP hD hS hA (p_price l D k (a 0) (a 1) (a 2) (a 3) (a 4) (a 5) (a 6) (a 7) (a 8) (a 9) (a 10) (a 11) (IA 0) (IA 1) (IA 2) (LA 0) (LA 1) ([.ref (a 26), .ref (a 27), .ref (a 28), .int (iZ (IA 3)), .int (iZ (IA 4)), .int (iZ (IA 5)), .int (iZ (IA 6))]) (a 23) (a 27) (a 28) (a 24) (a 25) (IA 3) (IA 4) (IA 5) (FA 0) (FA 1) z1 z2 rfl rfl rfl rfl rfl (by omega) hx0 ⟨by omega, by omega⟩ (by omega) ⟨by omega, by omega⟩ ⟨by omega, by omega⟩ ⟨by omega, by omega⟩) ci_X11_price qm_L_246 ⟨Nat.le_of_ble_eq_true rfl, Nat.le_of_ble_eq_true rfl⟩ (lroom _) [0, 1, 2, 6, 7] [3, 4, 5, 8, 9, 10, 11, 12, 13, 14, 15, 16, 17, 18, 19, 20, 21, 22, 23, 24, 25] rfl rfl rfl (by decide +kernel) (by decide +kernel) (by decide +kernel) 0 rfl rfl rfl hl.1 rfl (Nat.le_of_ble_eq_true rfl) dL_law_2300 (fun u_5 H locs hφ hP hD hS => ?_)
  obtain ⟨I_6, L_7, F_8, G_9⟩ := u_5
  obtain ⟨hP, hD⟩ := PD.by2 (is := [21, 22, 23, 0, 1, 2, 24, 25, 3, 4, 5, 6, 7, 8, 9, 10, 11, 12, 13, 14, 15, 16, 17, 18, 19, 20]) (y := (GA k a (fun i => [(IA 0), (IA 1), (I_6 1), (IA 3), (IA 4), (IA 5), (IA 6), (IA 7), (IA 8), (IA 9), (IA 10), (IA 11), (IA 12), (IA 13), (IA 14), (IA 15), (IA 16), (IA 17), (IA 18)].getD i 0) LA FA QA VA r)) ⟨hP, hD⟩ (by decide +kernel) rfl
  refine W.eq (g2 := F0 m 2303 ls [.int (iZ (I_6 0))]) rfl ?_
  refine lv_pop hx hb dL_law_2303 rfl ?_
  refine lv_aload_n hx hb dL_law_2304 rfl (lv_at hl 1 rfl) ?_
  refine lv_aload_n hx hb dL_law_2305 rfl (lv_at hl 3 rfl) ?_
  refine lv_iload_n hx hb dL_law_2306 rfl (lv_at hl 0 rfl) ?_
  refine lv_iconst (v := iZ 1) hx hb dL_law_2307 (by decide) ?_
  refine lv_iadd hx hb dL_law_2308 ?_
  refine lv_topi (fun x_11 ex_11 => ?_)
  obtain rfl : x_11 = iZ (i + 1) := ex_11.trans (iZ_add i 1)
  refine va_sld hx hb hX hbl hbA hS (zin (e := (i + 1)) (n := L) ⟨by omega, by omega⟩ (by omega)) dL_law_2309 ?_
  refine lv_topi (fun x_12 ex_12 => ?_)
  obtain rfl : x_12 = iZ z1 := ex_12.trans hz1
  refine lv_aload_n hx hb dL_law_2310 rfl (lv_at hl 3 rfl) ?_
  refine lv_iload_n hx hb dL_law_2311 rfl (lv_at hl 0 rfl) ?_
  refine lv_iconst (v := iZ 2) hx hb dL_law_2312 (by decide) ?_
  refine lv_iadd hx hb dL_law_2313 ?_
  refine lv_topi (fun x_13 ex_13 => ?_)
  obtain rfl : x_13 = iZ (i + 2) := ex_13.trans (iZ_add i 2)
  refine va_sld hx hb hX hbl hbA hS (zin (e := (i + 2)) (n := L) ⟨by omega, by omega⟩ (by omega)) dL_law_2314 ?_
  refine lv_topi (fun x_14 ex_14 => ?_)
  obtain rfl : x_14 = iZ z2 := ex_14.trans hz2
  obtain ⟨hP, hD⟩ := PD.fr5 ⟨hP, hD⟩
  refine CKV2 (As := [.int (iZ z1), .int (iZ z2)]) (rest := []) (tl := (GA k a (fun i => [(IA 0), (IA 1), (I_6 1), (IA 3), (IA 4), (IA 5), (IA 6), (IA 7), (IA 8), (IA 9), (IA 10), (IA 11), (IA 12), (IA 13), (IA 14), (IA 15), (IA 16), (IA 17), (IA 18)].getD i 0) LA FA QA VA r) ++ ((GB k a IB LB FB QB VB r) ++ ((GC k a IC LC FC QC VC r) ++ ((GD k a ID LD FD QD VD r) ++ (r.tl))))) hx hb hml hown hts hKK hP hD hS hA (q_price l D k (a 106) (a 107) (a 108) (a 109) (a 110) (a 111) (a 112) (a 113) (a 114) (a 115) (a 116) (a 117) (a 118) (a 119) (a 120) (a 121) (a 122) (IR 0) (IR 1) (IR 2) (IR 3) (IR 4) (IR 5) (IR 6) (IR 7) (IR 8) (IR 9) (IR 10) (IR 11) (IR 12) (IR 13) (IR 14) (IR 15) (IR 16) (IR 17) (LR 0) (LR 1) (FR 0) z1 z2 hM ⟨by omega, by omega⟩ ⟨by omega, by omega⟩) ci_X12_price qm_L_249 ⟨Nat.le_of_ble_eq_true rfl, Nat.le_of_ble_eq_true rfl⟩ (lroom _) [0, 1] [2, 3, 4, 5, 6, 7, 8, 9, 10, 11, 12, 13, 14, 15, 16] rfl rfl rfl (by decide +kernel) (by decide +kernel) (by decide +kernel) 0 rfl rfl rfl hl.1 rfl (Nat.le_of_ble_eq_true rfl) dL_law_2315 (fun u_15 H locs hφ hP hD hS => ?_)
  obtain ⟨I_16, L_17, F_18, G_19⟩ := u_15
  obtain ⟨hP, hD⟩ := PD.by2 (is := [15, 16, 0, 1, 2, 3, 4, 5, 6, 7, 8, 9, 10, 11, 12, 13, 14]) (y := (GR k a (fun i => [(I_16 1), (IR 1), (IR 2), (IR 3), (IR 4), (IR 5), (IR 6), (IR 7), (IR 8), (IR 9), (IR 10), (IR 11), (IR 12), (IR 13), (IR 14), (IR 15), (IR 16), (IR 17)].getD i 0) LR FR QR VR r)) ⟨hP, hD⟩ (by decide +kernel) rfl
  refine W.eq (g2 := F0 m 2318 ls [.int (iZ (I_16 0))]) rfl ?_
  refine lv_pop hx hb dL_law_2318 rfl ?_
  refine lv_goto (tgt := 2846) hx hb dL_law_2319 (by decide) ?_
  obtain ⟨hP, hD⟩ := PD.fr5 ⟨hP, hD⟩
  obtain ⟨hP, hD⟩ := PD.fr5 ⟨hP, hD⟩
  obtain ⟨hP, hD⟩ := PD.fr5 ⟨hP, hD⟩
  obtain ⟨hP, hD⟩ := PD.fr5 ⟨hP, hD⟩
  exact hk a (fun i => [(IA 0), (IA 1), (I_6 1), (IA 3), (IA 4), (IA 5), (IA 6), (IA 7), (IA 8), (IA 9), (IA 10), (IA 11), (IA 12), (IA 13), (IA 14), (IA 15), (IA 16), (IA 17), (IA 18)].getD i 0) LA FA QA VA IB LB FB QB VB IC LC FC QC VC ID LD FD QD VD (fun i => [(I_16 1), (IR 1), (IR 2), (IR 3), (IR 4), (IR 5), (IR 6), (IR 7), (IR 8), (IR 9), (IR 10), (IR 11), (IR 12), (IR 13), (IR 14), (IR 15), (IR 16), (IR 17)].getD i 0) LR FR QR VR r H locs ls (show INV _ _ _ _ _ _ _ _ _ _ from ⟨hWI, hWI_0, hWI_1, hWI_2, hrd, htr0, htr1, htr2, htr3, hrgk, hrgt, hdrc, hev, hmk, hM, hMK, hTI, hFS, htd, hlt, rgH, rgS, rgY, hdr, hit, hmmk, heq, htq, hrel⟩) hRT hP hD hS (lv_sub hl [0, 1, 2, 3] rfl)
