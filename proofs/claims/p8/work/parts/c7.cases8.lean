set_option maxHeartbeats 40000000 in
set_option maxRecDepth 100000 in
theorem law_c64 {p : Program} {e : Env} {s : State} {m : MethodId} {below : List Frame} {meth : Method} {c : Code} (l : Launch) {b L : Nat} {xs : Nat → Int32} {A : Nat → Prop} {D : va_G} {k : Nat → ClassId} {sa sv : Nat} {i : Int} (C : LFX p s m meth c b L xs A D k sa sv) (hi : 0 ≤ i ∧ i + 6 ≤ (L : Int)) (hk : LAT p l e s m below meth c b A D k 2846 i) : LAT p l e s m below meth c b A D k 2616 i := by
  obtain ⟨hx, hb, hr, hml, hown, hts, hKK, hX, hbl, hbA, hA, hAf, hlocks, hSY, hRR, hL⟩ := id C
  intro a IA LA FA QA VA IB LB FB QB VB IC LC FC QC VC ID LD FD QD VD IR LR FR QR VR r H locs ls hI hRT hP hD hS hl
  have hK := hKK.1
  obtain ⟨hP, hD⟩ : PD D A ((GA k a IA LA FA QA VA r) ++ ((GB k a IB LB FB QB VB r) ++ ((GC k a IC LC FC QC VC r) ++ ((GD k a ID LD FD QD VD r) ++ ((GR k a IR LR FR QR VR r) ++ (r.tl)))))) H := ⟨hP, hD⟩
  obtain ⟨hWI, hWI_0, hWI_1, hWI_2, hrd, htr0, htr1, htr2, htr3, hrgk, hrgt, hdrc, hev, hmk, hM, hMK, hTI, hFS, htd, hlt, rgH, rgS, rgY, hdr, hit, hmmk, heq, htq, hrel⟩ := id hI
  obtain ⟨gw1, gw2, gw3, gw4, gw5, gw6, gw7, gw8, gw9, gw10, gw11⟩ := id hWI
  have hx0 := gw9
  have hYI := gw11
  obtain ⟨z1, hz1, hz1a, hz1b⟩ := i32_z (xs (iZ (i + 1)).toNatClampNeg)
  obtain ⟨z2, hz2, hz2a, hz2b⟩ := i32_z (xs (iZ (i + 2)).toNatClampNeg)
  obtain ⟨z3, hz3, hz3a, hz3b⟩ := i32_z (xs (iZ (i + 3)).toNatClampNeg)
  obtain ⟨z4, hz4, hz4a, hz4b⟩ := i32_z (xs (iZ (i + 4)).toNatClampNeg)
  obtain ⟨z5, hz5, hz5a, hz5b⟩ := i32_z (xs (iZ (i + 5)).toNatClampNeg)
  have hl : lv_has ls 4 [(3, .int (iZ i)), (2, .ref (a 106)), (1, .ref (a 0)), (0, .ref b)] := hl
  refine lv_aload_n hx hb dL_law_2616 rfl (lv_at hl 2 rfl) ?_
  refine lv_aload_n hx hb dL_law_2617 rfl (lv_at hl 3 rfl) ?_
  refine lv_iload_n hx hb dL_law_2618 rfl (lv_at hl 0 rfl) ?_
  refine lv_iconst (v := iZ 1) hx hb dL_law_2619 (by decide) ?_
  refine lv_iadd hx hb dL_law_2620 ?_
  refine lv_topi (fun x_1 ex_1 => ?_)
  obtain rfl : x_1 = iZ (i + 1) := ex_1.trans (iZ_add i 1)
  refine va_sld hx hb hX hbl hbA hS (zin (e := (i + 1)) (n := L) ⟨by omega, by omega⟩ (by omega)) dL_law_2621 ?_
  refine lv_topi (fun x_2 ex_2 => ?_)
  obtain rfl : x_2 = iZ z1 := ex_2.trans hz1
  refine lv_aload_n hx hb dL_law_2622 rfl (lv_at hl 3 rfl) ?_
  refine lv_iload_n hx hb dL_law_2623 rfl (lv_at hl 0 rfl) ?_
  refine lv_iconst (v := iZ 2) hx hb dL_law_2624 (by decide) ?_
  refine lv_iadd hx hb dL_law_2625 ?_
  refine lv_topi (fun x_3 ex_3 => ?_)
  obtain rfl : x_3 = iZ (i + 2) := ex_3.trans (iZ_add i 2)
  refine va_sld hx hb hX hbl hbA hS (zin (e := (i + 2)) (n := L) ⟨by omega, by omega⟩ (by omega)) dL_law_2626 ?_
  refine lv_topi (fun x_4 ex_4 => ?_)
  obtain rfl : x_4 = iZ z2 := ex_4.trans hz2
  obtain ⟨hP, hD⟩ := PD.mid4 ⟨hP, hD⟩
  refine CXM (mid := (GB k a IB LB FB QB VB r) ++ ((GC k a IC LC FC QC VC r) ++ ((GD k a ID LD FD QD VD r) ++ ((GR k a IR LR FR QR VR r))))) (c0 := 123) (s0 := 16705) (r := r) (As := [.int (iZ z1), .int (iZ z2)]) (rest := []) hx hb hml hown hts hKK hP hD hS hA (p_fashion l D k (a 0) (a 1) (a 2) (a 3) (a 4) (a 5) (a 6) (a 7) (a 8) (a 9) (a 10) (a 11) (IA 0) (IA 1) (IA 2) (LA 0) (LA 1) ([.ref (a 26), .ref (a 27), .ref (a 28), .int (iZ (IA 3)), .int (iZ (IA 4)), .int (iZ (IA 5)), .int (iZ (IA 6))]) (a 23) (a 27) (a 28) (a 24) (a 25) (IA 3) (IA 4) (IA 5) (FA 0) (FA 1) (a 29) (a 30) (a 31) (a 32) (IA 7) (IA 8) (FA 2) (FA 3) (FA 4) (FA 5) z1 z2 r hRT rfl rfl rfl rfl rfl (by omega) hx0 ⟨by omega, by omega⟩ (by omega) ⟨by omega, by omega⟩ ⟨by omega, by omega⟩ ⟨by omega, by omega⟩ gw10 ⟨by omega, by omega⟩ ⟨by omega, by omega⟩) ci_X11_fashion qm_L_283 ⟨Nat.le_of_ble_eq_true rfl, Nat.le_of_ble_eq_true rfl⟩ ⟨Nat.le_of_ble_eq_true rfl, Nat.le_of_ble_eq_true rfl⟩ [0, 1, 3, 8, 9, 10, 11, 17, 2, 6, 7] [4, 5, 12, 13, 14, 15, 16, 18, 19, 20, 21, 22, 23, 24, 25] rfl rfl rfl (by decide +kernel) (by decide +kernel) (by decide +kernel) 0 rfl rfl rfl hl.1 rfl (Nat.le_of_ble_eq_true rfl) dL_law_2627 (fun u_5 H locs hφ hP hD hS => ?_)
  obtain ⟨r_10, I_6, L_7, F_8, G_9⟩ := u_5
  have rtr_10 : RT k r_10 := hφ
  obtain ⟨hP, hD⟩ := PD.dim4 ⟨hP, hD⟩
  obtain ⟨hP, hD⟩ := PD.by2 (is := [15, 16, 23, 17, 0, 1, 24, 25, 18, 19, 20, 21, 2, 3, 4, 5, 6, 22, 7, 8, 9, 10, 11, 12, 13, 14]) (y := (GA k a (fun i => [(IA 0), (IA 1), (I_6 1), (IA 3), (IA 4), (IA 5), (IA 6), (IA 7), (IA 8), (IA 9), (IA 10), (IA 11), (IA 12), (IA 13), (IA 14), (IA 15), (IA 16), (IA 17), (IA 18)].getD i 0) LA FA QA VA r_10)) ⟨hP, hD⟩ (by decide +kernel) rfl
  refine W.ceq (cells' := 123 + cz true r_10.b) (slots' := 16705 + sz true r_10.b) rfl rfl ?_
  refine W.eq (g2 := F0 m 2630 ls [.int (iZ (I_6 0))]) rfl ?_
  refine lv_pop hx hb dL_law_2630 rfl ?_
  refine lv_aload_n hx hb dL_law_2631 rfl (lv_at hl 1 rfl) ?_
  refine lv_aload_n hx hb dL_law_2632 rfl (lv_at hl 3 rfl) ?_
  refine lv_iload_n hx hb dL_law_2633 rfl (lv_at hl 0 rfl) ?_
  refine lv_iconst (v := iZ 1) hx hb dL_law_2634 (by decide) ?_
  refine lv_iadd hx hb dL_law_2635 ?_
  refine lv_topi (fun x_11 ex_11 => ?_)
  obtain rfl : x_11 = iZ (i + 1) := ex_11.trans (iZ_add i 1)
  refine va_sld hx hb hX hbl hbA hS (zin (e := (i + 1)) (n := L) ⟨by omega, by omega⟩ (by omega)) dL_law_2636 ?_
  refine lv_topi (fun x_12 ex_12 => ?_)
  obtain rfl : x_12 = iZ z1 := ex_12.trans hz1
  refine lv_aload_n hx hb dL_law_2637 rfl (lv_at hl 3 rfl) ?_
  refine lv_iload_n hx hb dL_law_2638 rfl (lv_at hl 0 rfl) ?_
  refine lv_iconst (v := iZ 2) hx hb dL_law_2639 (by decide) ?_
  refine lv_iadd hx hb dL_law_2640 ?_
  refine lv_topi (fun x_13 ex_13 => ?_)
  obtain rfl : x_13 = iZ (i + 2) := ex_13.trans (iZ_add i 2)
  refine va_sld hx hb hX hbl hbA hS (zin (e := (i + 2)) (n := L) ⟨by omega, by omega⟩ (by omega)) dL_law_2641 ?_
  refine lv_topi (fun x_14 ex_14 => ?_)
  obtain rfl : x_14 = iZ z2 := ex_14.trans hz2
  obtain ⟨hP, hD⟩ := PD.fr5 ⟨hP, hD⟩
  refine CKV2 (As := [.int (iZ z1), .int (iZ z2)]) (rest := []) (tl := (GA k a (fun i => [(IA 0), (IA 1), (I_6 1), (IA 3), (IA 4), (IA 5), (IA 6), (IA 7), (IA 8), (IA 9), (IA 10), (IA 11), (IA 12), (IA 13), (IA 14), (IA 15), (IA 16), (IA 17), (IA 18)].getD i 0) LA FA QA VA r_10) ++ ((GB k a IB LB FB QB VB r) ++ ((GC k a IC LC FC QC VC r) ++ ((GD k a ID LD FD QD VD r) ++ (r_10.tl))))) hx hb hml hown hts hKK hP hD hS hA (q_fashion l D k (a 106) (a 107) (a 108) (a 109) (a 110) (a 111) (a 112) (a 113) (a 114) (a 115) (a 116) (a 117) (a 118) (a 119) (a 120) (a 121) (a 122) (IR 0) (IR 1) (IR 2) (IR 3) (IR 4) (IR 5) (IR 6) (IR 7) (IR 8) (IR 9) (IR 10) (IR 11) (IR 12) (IR 13) (IR 14) (IR 15) (IR 16) (IR 17) (LR 0) (LR 1) (FR 0) z1 z2 hM ⟨by omega, by omega⟩ ⟨by omega, by omega⟩) ci_X12_fashion qm_L_286 ⟨Nat.le_of_ble_eq_true rfl, Nat.le_of_ble_eq_true rfl⟩ (lroom _) [0, 1] [2, 3, 4, 5, 6, 7, 8, 9, 10, 11, 12, 13, 14, 15, 16] rfl rfl rfl (by decide +kernel) (by decide +kernel) (by decide +kernel) 0 rfl rfl rfl hl.1 rfl (Nat.le_of_ble_eq_true rfl) dL_law_2642 (fun u_15 H locs hφ hP hD hS => ?_)
  obtain ⟨I_16, L_17, F_18, G_19⟩ := u_15
  obtain ⟨hP, hD⟩ := PD.by2 (is := [15, 16, 0, 1, 2, 3, 4, 5, 6, 7, 8, 9, 10, 11, 12, 13, 14]) (y := (GR k a (fun i => [(I_16 1), (IR 1), (IR 2), (IR 3), (IR 4), (IR 5), (IR 6), (IR 7), (IR 8), (IR 9), (IR 10), (IR 11), (IR 12), (IR 13), (IR 14), (IR 15), (IR 16), (IR 17)].getD i 0) LR FR QR VR r_10)) ⟨hP, hD⟩ (by decide +kernel) rfl
  refine W.eq (g2 := F0 m 2645 ls [.int (iZ (I_16 0))]) rfl ?_
  refine lv_pop hx hb dL_law_2645 rfl ?_
  refine lv_goto (tgt := 2846) hx hb dL_law_2646 (by decide) ?_
  obtain ⟨hP, hD⟩ := PD.fr5 ⟨hP, hD⟩
  obtain ⟨hP, hD⟩ := PD.fr5 ⟨hP, hD⟩
  obtain ⟨hP, hD⟩ := PD.fr5 ⟨hP, hD⟩
  obtain ⟨hP, hD⟩ := PD.fr5 ⟨hP, hD⟩
  exact hk a (fun i => [(IA 0), (IA 1), (I_6 1), (IA 3), (IA 4), (IA 5), (IA 6), (IA 7), (IA 8), (IA 9), (IA 10), (IA 11), (IA 12), (IA 13), (IA 14), (IA 15), (IA 16), (IA 17), (IA 18)].getD i 0) LA FA QA VA IB LB FB QB VB IC LC FC QC VC ID LD FD QD VD (fun i => [(I_16 1), (IR 1), (IR 2), (IR 3), (IR 4), (IR 5), (IR 6), (IR 7), (IR 8), (IR 9), (IR 10), (IR 11), (IR 12), (IR 13), (IR 14), (IR 15), (IR 16), (IR 17)].getD i 0) LR FR QR VR r_10 H locs ls (show INV _ _ _ _ _ _ _ _ _ _ from ⟨hWI, hWI_0, hWI_1, hWI_2, hrd, htr0, htr1, htr2, htr3, hrgk, hrgt, hdrc, hev, hmk, hM, hMK, hTI, hFS, htd, hlt, rgH, rgS, rgY, hdr, hit, hmmk, heq, htq, hrel⟩) rtr_10 hP hD hS (lv_sub hl [0, 1, 2, 3] rfl)
set_option maxHeartbeats 40000000 in
set_option maxRecDepth 100000 in
theorem law_c65 {p : Program} {e : Env} {s : State} {m : MethodId} {below : List Frame} {meth : Method} {c : Code} (l : Launch) {b L : Nat} {xs : Nat → Int32} {A : Nat → Prop} {D : va_G} {k : Nat → ClassId} {sa sv : Nat} {i : Int} (C : LFX p s m meth c b L xs A D k sa sv) (hi : 0 ≤ i ∧ i + 6 ≤ (L : Int)) (hk : LAT p l e s m below meth c b A D k 2846 i) : LAT p l e s m below meth c b A D k 2649 i := by
  obtain ⟨hx, hb, hr, hml, hown, hts, hKK, hX, hbl, hbA, hA, hAf, hlocks, hSY, hRR, hL⟩ := id C
  intro a IA LA FA QA VA IB LB FB QB VB IC LC FC QC VC ID LD FD QD VD IR LR FR QR VR r H locs ls hI hRT hP hD hS hl
  have hK := hKK.1
  obtain ⟨hP, hD⟩ : PD D A ((GA k a IA LA FA QA VA r) ++ ((GB k a IB LB FB QB VB r) ++ ((GC k a IC LC FC QC VC r) ++ ((GD k a ID LD FD QD VD r) ++ ((GR k a IR LR FR QR VR r) ++ (r.tl)))))) H := ⟨hP, hD⟩
  obtain ⟨hWI, hWI_0, hWI_1, hWI_2, hrd, htr0, htr1, htr2, htr3, hrgk, hrgt, hdrc, hev, hmk, hM, hMK, hTI, hFS, htd, hlt, rgH, rgS, rgY, hdr, hit, hmmk, heq, htq, hrel⟩ := id hI
  obtain ⟨gw1, gw2, gw3, gw4, gw5, gw6, gw7, gw8, gw9, gw10, gw11⟩ := id hWI
  have hx0 := gw9
  have hYI := gw11
  obtain ⟨z1, hz1, hz1a, hz1b⟩ := i32_z (xs (iZ (i + 1)).toNatClampNeg)
  obtain ⟨z2, hz2, hz2a, hz2b⟩ := i32_z (xs (iZ (i + 2)).toNatClampNeg)
  obtain ⟨z3, hz3, hz3a, hz3b⟩ := i32_z (xs (iZ (i + 3)).toNatClampNeg)
  obtain ⟨z4, hz4, hz4a, hz4b⟩ := i32_z (xs (iZ (i + 4)).toNatClampNeg)
  obtain ⟨z5, hz5, hz5a, hz5b⟩ := i32_z (xs (iZ (i + 5)).toNatClampNeg)
  have hl : lv_has ls 4 [(3, .int (iZ i)), (2, .ref (a 106)), (1, .ref (a 0)), (0, .ref b)] := hl
  refine lv_aload_n hx hb dL_law_2649 rfl (lv_at hl 2 rfl) ?_
  refine lv_aload_n hx hb dL_law_2650 rfl (lv_at hl 3 rfl) ?_
  refine lv_iload_n hx hb dL_law_2651 rfl (lv_at hl 0 rfl) ?_
  refine lv_iconst (v := iZ 1) hx hb dL_law_2652 (by decide) ?_
  refine lv_iadd hx hb dL_law_2653 ?_
  refine lv_topi (fun x_1 ex_1 => ?_)
  obtain rfl : x_1 = iZ (i + 1) := ex_1.trans (iZ_add i 1)
  refine va_sld hx hb hX hbl hbA hS (zin (e := (i + 1)) (n := L) ⟨by omega, by omega⟩ (by omega)) dL_law_2654 ?_
  refine lv_topi (fun x_2 ex_2 => ?_)
  obtain rfl : x_2 = iZ z1 := ex_2.trans hz1
  refine lv_aload_n hx hb dL_law_2655 rfl (lv_at hl 3 rfl) ?_
  refine lv_iload_n hx hb dL_law_2656 rfl (lv_at hl 0 rfl) ?_
  refine lv_iconst (v := iZ 2) hx hb dL_law_2657 (by decide) ?_
  refine lv_iadd hx hb dL_law_2658 ?_
  refine lv_topi (fun x_3 ex_3 => ?_)
  obtain rfl : x_3 = iZ (i + 2) := ex_3.trans (iZ_add i 2)
  refine va_sld hx hb hX hbl hbA hS (zin (e := (i + 2)) (n := L) ⟨by omega, by omega⟩ (by omega)) dL_law_2659 ?_
  refine lv_topi (fun x_4 ex_4 => ?_)
  obtain rfl : x_4 = iZ z2 := ex_4.trans hz2
  obtain ⟨hP, hD⟩ := PD.mid4 ⟨hP, hD⟩
  refine CXM (mid := (GB k a IB LB FB QB VB r) ++ ((GC k a IC LC FC QC VC r) ++ ((GD k a ID LD FD QD VD r) ++ ((GR k a IR LR FR QR VR r))))) (c0 := 123) (s0 := 16705) (r := r) (As := [.int (iZ z1), .int (iZ z2)]) (rest := []) hx hb hml hown hts hKK hP hD hS hA (p_follows l D k (a 0) (a 1) (a 2) (a 3) (a 4) (a 5) (a 6) (a 7) (a 8) (a 9) (a 10) (a 11) (IA 0) (IA 1) (IA 2) (LA 0) (LA 1) ([.ref (a 26), .ref (a 27), .ref (a 28), .int (iZ (IA 3)), .int (iZ (IA 4)), .int (iZ (IA 5)), .int (iZ (IA 6))]) (a 23) (a 27) (a 28) (a 24) (a 25) (IA 3) (IA 4) (IA 5) (FA 0) (FA 1) (a 29) (a 30) (a 31) (a 32) (IA 7) (IA 8) (FA 2) (FA 3) (FA 4) (FA 5) z1 z2 r hRT rfl rfl rfl rfl rfl (by omega) hx0 ⟨by omega, by omega⟩ (by omega) ⟨by omega, by omega⟩ ⟨by omega, by omega⟩ ⟨by omega, by omega⟩ gw10 ⟨by omega, by omega⟩ ⟨by omega, by omega⟩) ci_X11_follows qm_L_287 ⟨Nat.le_of_ble_eq_true rfl, Nat.le_of_ble_eq_true rfl⟩ ⟨Nat.le_of_ble_eq_true rfl, Nat.le_of_ble_eq_true rfl⟩ [0, 1, 3, 8, 9, 10, 11, 17, 2, 6, 7] [4, 5, 12, 13, 14, 15, 16, 18, 19, 20, 21, 22, 23, 24, 25] rfl rfl rfl (by decide +kernel) (by decide +kernel) (by decide +kernel) 0 rfl rfl rfl hl.1 rfl (Nat.le_of_ble_eq_true rfl) dL_law_2660 (fun u_5 H locs hφ hP hD hS => ?_)
  obtain ⟨r_10, I_6, L_7, F_8, G_9⟩ := u_5
  have rtr_10 : RT k r_10 := hφ
  obtain ⟨hP, hD⟩ := PD.dim4 ⟨hP, hD⟩
  obtain ⟨hP, hD⟩ := PD.by2 (is := [15, 16, 23, 17, 0, 1, 24, 25, 18, 19, 20, 21, 2, 3, 4, 5, 6, 22, 7, 8, 9, 10, 11, 12, 13, 14]) (y := (GA k a (fun i => [(IA 0), (IA 1), (I_6 1), (IA 3), (IA 4), (IA 5), (IA 6), (IA 7), (IA 8), (IA 9), (IA 10), (IA 11), (IA 12), (IA 13), (IA 14), (IA 15), (IA 16), (IA 17), (IA 18)].getD i 0) LA FA QA VA r_10)) ⟨hP, hD⟩ (by decide +kernel) rfl
  refine W.ceq (cells' := 123 + cz true r_10.b) (slots' := 16705 + sz true r_10.b) rfl rfl ?_
  refine W.eq (g2 := F0 m 2663 ls [.int (iZ (I_6 0))]) rfl ?_
  refine lv_pop hx hb dL_law_2663 rfl ?_
  refine lv_aload_n hx hb dL_law_2664 rfl (lv_at hl 1 rfl) ?_
  refine lv_aload_n hx hb dL_law_2665 rfl (lv_at hl 3 rfl) ?_
  refine lv_iload_n hx hb dL_law_2666 rfl (lv_at hl 0 rfl) ?_
  refine lv_iconst (v := iZ 1) hx hb dL_law_2667 (by decide) ?_
  refine lv_iadd hx hb dL_law_2668 ?_
  refine lv_topi (fun x_11 ex_11 => ?_)
  obtain rfl : x_11 = iZ (i + 1) := ex_11.trans (iZ_add i 1)
  refine va_sld hx hb hX hbl hbA hS (zin (e := (i + 1)) (n := L) ⟨by omega, by omega⟩ (by omega)) dL_law_2669 ?_
  refine lv_topi (fun x_12 ex_12 => ?_)
  obtain rfl : x_12 = iZ z1 := ex_12.trans hz1
  refine lv_aload_n hx hb dL_law_2670 rfl (lv_at hl 3 rfl) ?_
  refine lv_iload_n hx hb dL_law_2671 rfl (lv_at hl 0 rfl) ?_
  refine lv_iconst (v := iZ 2) hx hb dL_law_2672 (by decide) ?_
  refine lv_iadd hx hb dL_law_2673 ?_
  refine lv_topi (fun x_13 ex_13 => ?_)
  obtain rfl : x_13 = iZ (i + 2) := ex_13.trans (iZ_add i 2)
  refine va_sld hx hb hX hbl hbA hS (zin (e := (i + 2)) (n := L) ⟨by omega, by omega⟩ (by omega)) dL_law_2674 ?_
  refine lv_topi (fun x_14 ex_14 => ?_)
  obtain rfl : x_14 = iZ z2 := ex_14.trans hz2
  obtain ⟨hP, hD⟩ := PD.fr5 ⟨hP, hD⟩
  refine CKV2 (As := [.int (iZ z1), .int (iZ z2)]) (rest := []) (tl := (GA k a (fun i => [(IA 0), (IA 1), (I_6 1), (IA 3), (IA 4), (IA 5), (IA 6), (IA 7), (IA 8), (IA 9), (IA 10), (IA 11), (IA 12), (IA 13), (IA 14), (IA 15), (IA 16), (IA 17), (IA 18)].getD i 0) LA FA QA VA r_10) ++ ((GB k a IB LB FB QB VB r) ++ ((GC k a IC LC FC QC VC r) ++ ((GD k a ID LD FD QD VD r) ++ (r_10.tl))))) hx hb hml hown hts hKK hP hD hS hA (q_follows l D k (a 106) (a 107) (a 108) (a 109) (a 110) (a 111) (a 112) (a 113) (a 114) (a 115) (a 116) (a 117) (a 118) (a 119) (a 120) (a 121) (a 122) (IR 0) (IR 1) (IR 2) (IR 3) (IR 4) (IR 5) (IR 6) (IR 7) (IR 8) (IR 9) (IR 10) (IR 11) (IR 12) (IR 13) (IR 14) (IR 15) (IR 16) (IR 17) (LR 0) (LR 1) (FR 0) z1 z2 hM ⟨by omega, by omega⟩ ⟨by omega, by omega⟩) ci_X12_follows qm_L_290 ⟨Nat.le_of_ble_eq_true rfl, Nat.le_of_ble_eq_true rfl⟩ (lroom _) [0, 1] [2, 3, 4, 5, 6, 7, 8, 9, 10, 11, 12, 13, 14, 15, 16] rfl rfl rfl (by decide +kernel) (by decide +kernel) (by decide +kernel) 0 rfl rfl rfl hl.1 rfl (Nat.le_of_ble_eq_true rfl) dL_law_2675 (fun u_15 H locs hφ hP hD hS => ?_)
  obtain ⟨I_16, L_17, F_18, G_19⟩ := u_15
  obtain ⟨hP, hD⟩ := PD.by2 (is := [15, 16, 0, 1, 2, 3, 4, 5, 6, 7, 8, 9, 10, 11, 12, 13, 14]) (y := (GR k a (fun i => [(I_16 1), (IR 1), (IR 2), (IR 3), (IR 4), (IR 5), (IR 6), (IR 7), (IR 8), (IR 9), (IR 10), (IR 11), (IR 12), (IR 13), (IR 14), (IR 15), (IR 16), (IR 17)].getD i 0) LR FR QR VR r_10)) ⟨hP, hD⟩ (by decide +kernel) rfl
  refine W.eq (g2 := F0 m 2678 ls [.int (iZ (I_16 0))]) rfl ?_
  refine lv_pop hx hb dL_law_2678 rfl ?_
  refine lv_goto (tgt := 2846) hx hb dL_law_2679 (by decide) ?_
  obtain ⟨hP, hD⟩ := PD.fr5 ⟨hP, hD⟩
  obtain ⟨hP, hD⟩ := PD.fr5 ⟨hP, hD⟩
  obtain ⟨hP, hD⟩ := PD.fr5 ⟨hP, hD⟩
  obtain ⟨hP, hD⟩ := PD.fr5 ⟨hP, hD⟩
  exact hk a (fun i => [(IA 0), (IA 1), (I_6 1), (IA 3), (IA 4), (IA 5), (IA 6), (IA 7), (IA 8), (IA 9), (IA 10), (IA 11), (IA 12), (IA 13), (IA 14), (IA 15), (IA 16), (IA 17), (IA 18)].getD i 0) LA FA QA VA IB LB FB QB VB IC LC FC QC VC ID LD FD QD VD (fun i => [(I_16 1), (IR 1), (IR 2), (IR 3), (IR 4), (IR 5), (IR 6), (IR 7), (IR 8), (IR 9), (IR 10), (IR 11), (IR 12), (IR 13), (IR 14), (IR 15), (IR 16), (IR 17)].getD i 0) LR FR QR VR r_10 H locs ls (show INV _ _ _ _ _ _ _ _ _ _ from ⟨hWI, hWI_0, hWI_1, hWI_2, hrd, htr0, htr1, htr2, htr3, hrgk, hrgt, hdrc, hev, hmk, hM, hMK, hTI, hFS, htd, hlt, rgH, rgS, rgY, hdr, hit, hmmk, heq, htq, hrel⟩) rtr_10 hP hD hS (lv_sub hl [0, 1, 2, 3] rfl)
set_option maxHeartbeats 40000000 in
set_option maxRecDepth 100000 in
theorem law_c66 {p : Program} {e : Env} {s : State} {m : MethodId} {below : List Frame} {meth : Method} {c : Code} (l : Launch) {b L : Nat} {xs : Nat → Int32} {A : Nat → Prop} {D : va_G} {k : Nat → ClassId} {sa sv : Nat} {i : Int} (C : LFX p s m meth c b L xs A D k sa sv) (hi : 0 ≤ i ∧ i + 6 ≤ (L : Int)) (hk : LAT p l e s m below meth c b A D k 2846 i) : LAT p l e s m below meth c b A D k 2682 i := by
  obtain ⟨hx, hb, hr, hml, hown, hts, hKK, hX, hbl, hbA, hA, hAf, hlocks, hSY, hRR, hL⟩ := id C
  intro a IA LA FA QA VA IB LB FB QB VB IC LC FC QC VC ID LD FD QD VD IR LR FR QR VR r H locs ls hI hRT hP hD hS hl
  have hK := hKK.1
  obtain ⟨hP, hD⟩ : PD D A ((GA k a IA LA FA QA VA r) ++ ((GB k a IB LB FB QB VB r) ++ ((GC k a IC LC FC QC VC r) ++ ((GD k a ID LD FD QD VD r) ++ ((GR k a IR LR FR QR VR r) ++ (r.tl)))))) H := ⟨hP, hD⟩
  obtain ⟨hWI, hWI_0, hWI_1, hWI_2, hrd, htr0, htr1, htr2, htr3, hrgk, hrgt, hdrc, hev, hmk, hM, hMK, hTI, hFS, htd, hlt, rgH, rgS, rgY, hdr, hit, hmmk, heq, htq, hrel⟩ := id hI
  obtain ⟨gw1, gw2, gw3, gw4, gw5, gw6, gw7, gw8, gw9, gw10, gw11⟩ := id hWI
  have hx0 := gw9
  have hYI := gw11
  obtain ⟨z1, hz1, hz1a, hz1b⟩ := i32_z (xs (iZ (i + 1)).toNatClampNeg)
  obtain ⟨z2, hz2, hz2a, hz2b⟩ := i32_z (xs (iZ (i + 2)).toNatClampNeg)
  obtain ⟨z3, hz3, hz3a, hz3b⟩ := i32_z (xs (iZ (i + 3)).toNatClampNeg)
  obtain ⟨z4, hz4, hz4a, hz4b⟩ := i32_z (xs (iZ (i + 4)).toNatClampNeg)
  obtain ⟨z5, hz5, hz5a, hz5b⟩ := i32_z (xs (iZ (i + 5)).toNatClampNeg)
  have hl : lv_has ls 4 [(3, .int (iZ i)), (2, .ref (a 106)), (1, .ref (a 0)), (0, .ref b)] := hl
  refine lv_aload_n hx hb dL_law_2682 rfl (lv_at hl 2 rfl) ?_
  refine lv_aload_n hx hb dL_law_2683 rfl (lv_at hl 3 rfl) ?_
  refine lv_iload_n hx hb dL_law_2684 rfl (lv_at hl 0 rfl) ?_
  refine lv_iconst (v := iZ 1) hx hb dL_law_2685 (by decide) ?_
  refine lv_iadd hx hb dL_law_2686 ?_
  refine lv_topi (fun x_1 ex_1 => ?_)
  obtain rfl : x_1 = iZ (i + 1) := ex_1.trans (iZ_add i 1)
  refine va_sld hx hb hX hbl hbA hS (zin (e := (i + 1)) (n := L) ⟨by omega, by omega⟩ (by omega)) dL_law_2687 ?_
  refine lv_topi (fun x_2 ex_2 => ?_)
  obtain rfl : x_2 = iZ z1 := ex_2.trans hz1
  obtain ⟨hP, hD⟩ := PD.mid4 ⟨hP, hD⟩
  refine CXM (mid := (GB k a IB LB FB QB VB r) ++ ((GC k a IC LC FC QC VC r) ++ ((GD k a ID LD FD QD VD r) ++ ((GR k a IR LR FR QR VR r))))) (c0 := 123) (s0 := 16705) (r := r) (As := [.int (iZ z1)]) (rest := []) hx hb hml hown hts hKK hP hD hS hA (p_model l D k (a 0) (a 1) (a 2) (a 3) (a 4) (a 5) (a 6) (a 7) (a 8) (a 9) (a 10) (a 11) (IA 0) (IA 1) (IA 2) (LA 0) (LA 1) ([.ref (a 26), .ref (a 27), .ref (a 28), .int (iZ (IA 3)), .int (iZ (IA 4)), .int (iZ (IA 5)), .int (iZ (IA 6))]) (a 23) (a 27) (a 28) (a 24) (a 25) (IA 3) (IA 4) (IA 5) (FA 0) (FA 1) (a 29) (a 30) (a 31) (a 32) (IA 7) (IA 8) (FA 2) (FA 3) (FA 4) (FA 5) z1 r hRT rfl rfl rfl rfl rfl (by omega) hx0 ⟨by omega, by omega⟩ (by omega) ⟨by omega, by omega⟩ ⟨by omega, by omega⟩ ⟨by omega, by omega⟩ gw10 ⟨by omega, by omega⟩) ci_X11_model qm_L_291 ⟨Nat.le_of_ble_eq_true rfl, Nat.le_of_ble_eq_true rfl⟩ ⟨Nat.le_of_ble_eq_true rfl, Nat.le_of_ble_eq_true rfl⟩ [0, 1, 3, 8, 9, 10, 11, 17, 2, 6, 7] [4, 5, 12, 13, 14, 15, 16, 18, 19, 20, 21, 22, 23, 24, 25] rfl rfl rfl (by decide +kernel) (by decide +kernel) (by decide +kernel) 0 rfl rfl rfl hl.1 rfl (Nat.le_of_ble_eq_true rfl) dL_law_2688 (fun u_3 H locs hφ hP hD hS => ?_)
  obtain ⟨r_8, I_4, L_5, F_6, G_7⟩ := u_3
  have rtr_8 : RT k r_8 := hφ
  obtain ⟨hP, hD⟩ := PD.dim4 ⟨hP, hD⟩
  obtain ⟨hP, hD⟩ := PD.by2 (is := [15, 16, 23, 17, 0, 1, 24, 25, 18, 19, 20, 21, 2, 3, 4, 5, 6, 22, 7, 8, 9, 10, 11, 12, 13, 14]) (y := (GA k a (fun i => [(IA 0), (IA 1), (I_4 1), (IA 3), (IA 4), (IA 5), (IA 6), (IA 7), (IA 8), (IA 9), (IA 10), (IA 11), (IA 12), (IA 13), (IA 14), (IA 15), (IA 16), (IA 17), (IA 18)].getD i 0) LA FA QA VA r_8)) ⟨hP, hD⟩ (by decide +kernel) rfl
  refine W.ceq (cells' := 123 + cz true r_8.b) (slots' := 16705 + sz true r_8.b) rfl rfl ?_
  refine W.eq (g2 := F0 m 2691 ls [.int (iZ (I_4 0))]) rfl ?_
  refine lv_pop hx hb dL_law_2691 rfl ?_
  refine lv_aload_n hx hb dL_law_2692 rfl (lv_at hl 1 rfl) ?_
  refine lv_aload_n hx hb dL_law_2693 rfl (lv_at hl 3 rfl) ?_
  refine lv_iload_n hx hb dL_law_2694 rfl (lv_at hl 0 rfl) ?_
  refine lv_iconst (v := iZ 1) hx hb dL_law_2695 (by decide) ?_
  refine lv_iadd hx hb dL_law_2696 ?_
  refine lv_topi (fun x_9 ex_9 => ?_)
  obtain rfl : x_9 = iZ (i + 1) := ex_9.trans (iZ_add i 1)
  refine va_sld hx hb hX hbl hbA hS (zin (e := (i + 1)) (n := L) ⟨by omega, by omega⟩ (by omega)) dL_law_2697 ?_
  refine lv_topi (fun x_10 ex_10 => ?_)
  obtain rfl : x_10 = iZ z1 := ex_10.trans hz1
  obtain ⟨hP, hD⟩ := PD.fr5 ⟨hP, hD⟩
  refine CKV2 (As := [.int (iZ z1)]) (rest := []) (tl := (GA k a (fun i => [(IA 0), (IA 1), (I_4 1), (IA 3), (IA 4), (IA 5), (IA 6), (IA 7), (IA 8), (IA 9), (IA 10), (IA 11), (IA 12), (IA 13), (IA 14), (IA 15), (IA 16), (IA 17), (IA 18)].getD i 0) LA FA QA VA r_8) ++ ((GB k a IB LB FB QB VB r) ++ ((GC k a IC LC FC QC VC r) ++ ((GD k a ID LD FD QD VD r) ++ (r_8.tl))))) hx hb hml hown hts hKK hP hD hS hA (q_model l D k (a 106) (a 107) (a 108) (a 109) (a 110) (a 111) (a 112) (a 113) (a 114) (a 115) (a 116) (a 117) (a 118) (a 119) (a 120) (a 121) (a 122) (IR 0) (IR 1) (IR 2) (IR 3) (IR 4) (IR 5) (IR 6) (IR 7) (IR 8) (IR 9) (IR 10) (IR 11) (IR 12) (IR 13) (IR 14) (IR 15) (IR 16) (IR 17) (LR 0) (LR 1) (FR 0) z1 hM ⟨by omega, by omega⟩) ci_X12_model qm_L_294 ⟨Nat.le_of_ble_eq_true rfl, Nat.le_of_ble_eq_true rfl⟩ (lroom _) [0, 1] [2, 3, 4, 5, 6, 7, 8, 9, 10, 11, 12, 13, 14, 15, 16] rfl rfl rfl (by decide +kernel) (by decide +kernel) (by decide +kernel) 0 rfl rfl rfl hl.1 rfl (Nat.le_of_ble_eq_true rfl) dL_law_2698 (fun u_11 H locs hφ hP hD hS => ?_)
  obtain ⟨I_12, L_13, F_14, G_15⟩ := u_11
  obtain ⟨hP, hD⟩ := PD.by2 (is := [15, 16, 0, 1, 2, 3, 4, 5, 6, 7, 8, 9, 10, 11, 12, 13, 14]) (y := (GR k a (fun i => [(I_12 1), (IR 1), (IR 2), (IR 3), (IR 4), (IR 5), (IR 6), (IR 7), (IR 8), (IR 9), (IR 10), (IR 11), (IR 12), (IR 13), (IR 14), (IR 15), (IR 16), (IR 17)].getD i 0) LR FR QR VR r_8)) ⟨hP, hD⟩ (by decide +kernel) rfl
  refine W.eq (g2 := F0 m 2701 ls [.int (iZ (I_12 0))]) rfl ?_
  refine lv_pop hx hb dL_law_2701 rfl ?_
  refine lv_goto (tgt := 2846) hx hb dL_law_2702 (by decide) ?_
  obtain ⟨hP, hD⟩ := PD.fr5 ⟨hP, hD⟩
  obtain ⟨hP, hD⟩ := PD.fr5 ⟨hP, hD⟩
  obtain ⟨hP, hD⟩ := PD.fr5 ⟨hP, hD⟩
  obtain ⟨hP, hD⟩ := PD.fr5 ⟨hP, hD⟩
  exact hk a (fun i => [(IA 0), (IA 1), (I_4 1), (IA 3), (IA 4), (IA 5), (IA 6), (IA 7), (IA 8), (IA 9), (IA 10), (IA 11), (IA 12), (IA 13), (IA 14), (IA 15), (IA 16), (IA 17), (IA 18)].getD i 0) LA FA QA VA IB LB FB QB VB IC LC FC QC VC ID LD FD QD VD (fun i => [(I_12 1), (IR 1), (IR 2), (IR 3), (IR 4), (IR 5), (IR 6), (IR 7), (IR 8), (IR 9), (IR 10), (IR 11), (IR 12), (IR 13), (IR 14), (IR 15), (IR 16), (IR 17)].getD i 0) LR FR QR VR r_8 H locs ls (show INV _ _ _ _ _ _ _ _ _ _ from ⟨hWI, hWI_0, hWI_1, hWI_2, hrd, htr0, htr1, htr2, htr3, hrgk, hrgt, hdrc, hev, hmk, hM, hMK, hTI, hFS, htd, hlt, rgH, rgS, rgY, hdr, hit, hmmk, heq, htq, hrel⟩) rtr_8 hP hD hS (lv_sub hl [0, 1, 2, 3] rfl)
set_option maxHeartbeats 40000000 in
set_option maxRecDepth 100000 in
theorem law_c67 {p : Program} {e : Env} {s : State} {m : MethodId} {below : List Frame} {meth : Method} {c : Code} (l : Launch) {b L : Nat} {xs : Nat → Int32} {A : Nat → Prop} {D : va_G} {k : Nat → ClassId} {sa sv : Nat} {i : Int} (C : LFX p s m meth c b L xs A D k sa sv) (hi : 0 ≤ i ∧ i + 6 ≤ (L : Int)) (hk : LAT p l e s m below meth c b A D k 2846 i) : LAT p l e s m below meth c b A D k 2705 i := by
  obtain ⟨hx, hb, hr, hml, hown, hts, hKK, hX, hbl, hbA, hA, hAf, hlocks, hSY, hRR, hL⟩ := id C
  intro a IA LA FA QA VA IB LB FB QB VB IC LC FC QC VC ID LD FD QD VD IR LR FR QR VR r H locs ls hI hRT hP hD hS hl
  have hK := hKK.1
  obtain ⟨hP, hD⟩ : PD D A ((GA k a IA LA FA QA VA r) ++ ((GB k a IB LB FB QB VB r) ++ ((GC k a IC LC FC QC VC r) ++ ((GD k a ID LD FD QD VD r) ++ ((GR k a IR LR FR QR VR r) ++ (r.tl)))))) H := ⟨hP, hD⟩
  obtain ⟨hWI, hWI_0, hWI_1, hWI_2, hrd, htr0, htr1, htr2, htr3, hrgk, hrgt, hdrc, hev, hmk, hM, hMK, hTI, hFS, htd, hlt, rgH, rgS, rgY, hdr, hit, hmmk, heq, htq, hrel⟩ := id hI
  obtain ⟨gw1, gw2, gw3, gw4, gw5, gw6, gw7, gw8, gw9, gw10, gw11⟩ := id hWI
  have hx0 := gw9
  have hYI := gw11
  obtain ⟨z1, hz1, hz1a, hz1b⟩ := i32_z (xs (iZ (i + 1)).toNatClampNeg)
  obtain ⟨z2, hz2, hz2a, hz2b⟩ := i32_z (xs (iZ (i + 2)).toNatClampNeg)
  obtain ⟨z3, hz3, hz3a, hz3b⟩ := i32_z (xs (iZ (i + 3)).toNatClampNeg)
  obtain ⟨z4, hz4, hz4a, hz4b⟩ := i32_z (xs (iZ (i + 4)).toNatClampNeg)
  obtain ⟨z5, hz5, hz5a, hz5b⟩ := i32_z (xs (iZ (i + 5)).toNatClampNeg)
  have hl : lv_has ls 4 [(3, .int (iZ i)), (2, .ref (a 106)), (1, .ref (a 0)), (0, .ref b)] := hl
  refine lv_aload_n hx hb dL_law_2705 rfl (lv_at hl 2 rfl) ?_
  refine lv_aload_n hx hb dL_law_2706 rfl (lv_at hl 3 rfl) ?_
  refine lv_iload_n hx hb dL_law_2707 rfl (lv_at hl 0 rfl) ?_
  refine lv_iconst (v := iZ 1) hx hb dL_law_2708 (by decide) ?_
  refine lv_iadd hx hb dL_law_2709 ?_
  refine lv_topi (fun x_1 ex_1 => ?_)
  obtain rfl : x_1 = iZ (i + 1) := ex_1.trans (iZ_add i 1)
  refine va_sld hx hb hX hbl hbA hS (zin (e := (i + 1)) (n := L) ⟨by omega, by omega⟩ (by omega)) dL_law_2710 ?_
  refine lv_topi (fun x_2 ex_2 => ?_)
  obtain rfl : x_2 = iZ z1 := ex_2.trans hz1
  refine CKV2 (As := [.int (iZ z1)]) (rest := []) (tl := (GB k a IB LB FB QB VB r) ++ ((GC k a IC LC FC QC VC r) ++ ((GD k a ID LD FD QD VD r) ++ ((GR k a IR LR FR QR VR r) ++ (r.tl))))) hx hb hml hown hts hKK hP hD hS hA (p_changes l D k (a 0) (a 1) (a 2) (a 3) (a 4) (a 5) (a 6) (a 7) (a 8) (a 9) (a 10) (a 11) (IA 0) (IA 1) (IA 2) (LA 0) (LA 1) ([.ref (a 26), .ref (a 27), .ref (a 28), .int (iZ (IA 3)), .int (iZ (IA 4)), .int (iZ (IA 5)), .int (iZ (IA 6))]) (a 23) (a 27) (a 28) (a 24) (a 25) (IA 3) (IA 4) (IA 5) (FA 0) (FA 1) (a 29) (a 30) (a 31) (a 32) (IA 7) (IA 8) (FA 2) (FA 3) (FA 4) (FA 5) z1 rfl rfl rfl rfl rfl (by omega) hx0 ⟨by omega, by omega⟩ (by omega) ⟨by omega, by omega⟩ ⟨by omega, by omega⟩ ⟨by omega, by omega⟩ gw10 ⟨by omega, by omega⟩) ci_X11_changes qm_L_295 ⟨Nat.le_of_ble_eq_true rfl, Nat.le_of_ble_eq_true rfl⟩ (lroom _) [0, 1, 3, 8, 9, 10, 11, 2, 6, 7] [4, 5, 12, 13, 14, 15, 16, 17, 18, 19, 20, 21, 22, 23, 24, 25] rfl rfl rfl (by decide +kernel) (by decide +kernel) (by decide +kernel) 0 rfl rfl rfl hl.1 rfl (Nat.le_of_ble_eq_true rfl) dL_law_2711 (fun u_3 H locs hφ hP hD hS => ?_)
  obtain ⟨I_4, L_5, F_6, G_7⟩ := u_3
  obtain ⟨hP, hD⟩ := PD.by2 (is := [16, 17, 23, 18, 0, 1, 24, 25, 19, 20, 21, 22, 2, 3, 4, 5, 6, 7, 8, 9, 10, 11, 12, 13, 14, 15]) (y := (GA k a (fun i => [(IA 0), (IA 1), (I_4 1), (IA 3), (IA 4), (IA 5), (IA 6), (IA 7), (IA 8), (IA 9), (IA 10), (IA 11), (IA 12), (IA 13), (IA 14), (IA 15), (IA 16), (IA 17), (IA 18)].getD i 0) LA FA QA VA r)) ⟨hP, hD⟩ (by decide +kernel) rfl
  refine W.eq (g2 := F0 m 2714 ls [.int (iZ (I_4 0))]) rfl ?_
  refine lv_pop hx hb dL_law_2714 rfl ?_
  refine lv_aload_n hx hb dL_law_2715 rfl (lv_at hl 1 rfl) ?_
  refine lv_aload_n hx hb dL_law_2716 rfl (lv_at hl 3 rfl) ?_
  refine lv_iload_n hx hb dL_law_2717 rfl (lv_at hl 0 rfl) ?_
  refine lv_iconst (v := iZ 1) hx hb dL_law_2718 (by decide) ?_
  refine lv_iadd hx hb dL_law_2719 ?_
  refine lv_topi (fun x_9 ex_9 => ?_)
  obtain rfl : x_9 = iZ (i + 1) := ex_9.trans (iZ_add i 1)
  refine va_sld hx hb hX hbl hbA hS (zin (e := (i + 1)) (n := L) ⟨by omega, by omega⟩ (by omega)) dL_law_2720 ?_
  refine lv_topi (fun x_10 ex_10 => ?_)
  obtain rfl : x_10 = iZ z1 := ex_10.trans hz1
  obtain ⟨hP, hD⟩ := PD.fr5 ⟨hP, hD⟩
  refine CKV2 (As := [.int (iZ z1)]) (rest := []) (tl := (GA k a (fun i => [(IA 0), (IA 1), (I_4 1), (IA 3), (IA 4), (IA 5), (IA 6), (IA 7), (IA 8), (IA 9), (IA 10), (IA 11), (IA 12), (IA 13), (IA 14), (IA 15), (IA 16), (IA 17), (IA 18)].getD i 0) LA FA QA VA r) ++ ((GB k a IB LB FB QB VB r) ++ ((GC k a IC LC FC QC VC r) ++ ((GD k a ID LD FD QD VD r) ++ (r.tl))))) hx hb hml hown hts hKK hP hD hS hA (q_changes l D k (a 106) (a 107) (a 108) (a 109) (a 110) (a 111) (a 112) (a 113) (a 114) (a 115) (a 116) (a 117) (a 118) (a 119) (a 120) (a 121) (a 122) (IR 0) (IR 1) (IR 2) (IR 3) (IR 4) (IR 5) (IR 6) (IR 7) (IR 8) (IR 9) (IR 10) (IR 11) (IR 12) (IR 13) (IR 14) (IR 15) (IR 16) (IR 17) (LR 0) (LR 1) (FR 0) z1 hM ⟨by omega, by omega⟩) ci_X12_changes qm_L_298 ⟨Nat.le_of_ble_eq_true rfl, Nat.le_of_ble_eq_true rfl⟩ (lroom _) [0, 1] [2, 3, 4, 5, 6, 7, 8, 9, 10, 11, 12, 13, 14, 15, 16] rfl rfl rfl (by decide +kernel) (by decide +kernel) (by decide +kernel) 0 rfl rfl rfl hl.1 rfl (Nat.le_of_ble_eq_true rfl) dL_law_2721 (fun u_11 H locs hφ hP hD hS => ?_)
  obtain ⟨I_12, L_13, F_14, G_15⟩ := u_11
  obtain ⟨hP, hD⟩ := PD.by2 (is := [15, 16, 0, 1, 2, 3, 4, 5, 6, 7, 8, 9, 10, 11, 12, 13, 14]) (y := (GR k a (fun i => [(I_12 1), (IR 1), (IR 2), (IR 3), (IR 4), (IR 5), (IR 6), (IR 7), (IR 8), (IR 9), (IR 10), (IR 11), (IR 12), (IR 13), (IR 14), (IR 15), (IR 16), (IR 17)].getD i 0) LR FR QR VR r)) ⟨hP, hD⟩ (by decide +kernel) rfl
  refine W.eq (g2 := F0 m 2724 ls [.int (iZ (I_12 0))]) rfl ?_
  refine lv_pop hx hb dL_law_2724 rfl ?_
  refine lv_goto (tgt := 2846) hx hb dL_law_2725 (by decide) ?_
  obtain ⟨hP, hD⟩ := PD.fr5 ⟨hP, hD⟩
  obtain ⟨hP, hD⟩ := PD.fr5 ⟨hP, hD⟩
  obtain ⟨hP, hD⟩ := PD.fr5 ⟨hP, hD⟩
  obtain ⟨hP, hD⟩ := PD.fr5 ⟨hP, hD⟩
  exact hk a (fun i => [(IA 0), (IA 1), (I_4 1), (IA 3), (IA 4), (IA 5), (IA 6), (IA 7), (IA 8), (IA 9), (IA 10), (IA 11), (IA 12), (IA 13), (IA 14), (IA 15), (IA 16), (IA 17), (IA 18)].getD i 0) LA FA QA VA IB LB FB QB VB IC LC FC QC VC ID LD FD QD VD (fun i => [(I_12 1), (IR 1), (IR 2), (IR 3), (IR 4), (IR 5), (IR 6), (IR 7), (IR 8), (IR 9), (IR 10), (IR 11), (IR 12), (IR 13), (IR 14), (IR 15), (IR 16), (IR 17)].getD i 0) LR FR QR VR r H locs ls (show INV _ _ _ _ _ _ _ _ _ _ from ⟨hWI, hWI_0, hWI_1, hWI_2, hrd, htr0, htr1, htr2, htr3, hrgk, hrgt, hdrc, hev, hmk, hM, hMK, hTI, hFS, htd, hlt, rgH, rgS, rgY, hdr, hit, hmmk, heq, htq, hrel⟩) hRT hP hD hS (lv_sub hl [0, 1, 2, 3] rfl)
set_option maxHeartbeats 40000000 in
set_option maxRecDepth 100000 in
theorem law_c68 {p : Program} {e : Env} {s : State} {m : MethodId} {below : List Frame} {meth : Method} {c : Code} (l : Launch) {b L : Nat} {xs : Nat → Int32} {A : Nat → Prop} {D : va_G} {k : Nat → ClassId} {sa sv : Nat} {i : Int} (C : LFX p s m meth c b L xs A D k sa sv) (hi : 0 ≤ i ∧ i + 6 ≤ (L : Int)) (hk : LAT p l e s m below meth c b A D k 2846 i) : LAT p l e s m below meth c b A D k 2728 i := by
  obtain ⟨hx, hb, hr, hml, hown, hts, hKK, hX, hbl, hbA, hA, hAf, hlocks, hSY, hRR, hL⟩ := id C
  intro a IA LA FA QA VA IB LB FB QB VB IC LC FC QC VC ID LD FD QD VD IR LR FR QR VR r H locs ls hI hRT hP hD hS hl
  have hK := hKK.1
  obtain ⟨hP, hD⟩ : PD D A ((GA k a IA LA FA QA VA r) ++ ((GB k a IB LB FB QB VB r) ++ ((GC k a IC LC FC QC VC r) ++ ((GD k a ID LD FD QD VD r) ++ ((GR k a IR LR FR QR VR r) ++ (r.tl)))))) H := ⟨hP, hD⟩
  obtain ⟨hWI, hWI_0, hWI_1, hWI_2, hrd, htr0, htr1, htr2, htr3, hrgk, hrgt, hdrc, hev, hmk, hM, hMK, hTI, hFS, htd, hlt, rgH, rgS, rgY, hdr, hit, hmmk, heq, htq, hrel⟩ := id hI
  obtain ⟨gw1, gw2, gw3, gw4, gw5, gw6, gw7, gw8, gw9, gw10, gw11⟩ := id hWI
  have hx0 := gw9
  have hYI := gw11
  obtain ⟨z1, hz1, hz1a, hz1b⟩ := i32_z (xs (iZ (i + 1)).toNatClampNeg)
  obtain ⟨z2, hz2, hz2a, hz2b⟩ := i32_z (xs (iZ (i + 2)).toNatClampNeg)
  obtain ⟨z3, hz3, hz3a, hz3b⟩ := i32_z (xs (iZ (i + 3)).toNatClampNeg)
  obtain ⟨z4, hz4, hz4a, hz4b⟩ := i32_z (xs (iZ (i + 4)).toNatClampNeg)
  obtain ⟨z5, hz5, hz5a, hz5b⟩ := i32_z (xs (iZ (i + 5)).toNatClampNeg)
  have hl : lv_has ls 4 [(3, .int (iZ i)), (2, .ref (a 106)), (1, .ref (a 0)), (0, .ref b)] := hl
  refine lv_aload_n hx hb dL_law_2728 rfl (lv_at hl 2 rfl) ?_
  refine CKV2 (As := []) (rest := []) (tl := (GB k a IB LB FB QB VB r) ++ ((GC k a IC LC FC QC VC r) ++ ((GD k a ID LD FD QD VD r) ++ ((GR k a IR LR FR QR VR r) ++ (r.tl))))) hx hb hml hown hts hKK hP hD hS hA (p_uniform l D k (a 0) (a 1) (a 2) (a 3) (a 4) (a 5) (a 6) (a 7) (a 8) (a 9) (a 10) (a 11) (IA 0) (IA 1) (IA 2) (LA 0) (LA 1) ([.ref (a 26), .ref (a 27), .ref (a 28), .int (iZ (IA 3)), .int (iZ (IA 4)), .int (iZ (IA 5)), .int (iZ (IA 6))]) (a 23) (a 27) (a 28) (a 24) (a 25) (IA 3) (IA 4) (IA 5) (FA 0) (FA 1) (a 29) (a 30) (a 31) (a 32) (IA 7) (IA 8) (FA 2) (FA 3) (FA 4) (FA 5) rfl rfl rfl rfl rfl (by omega) hx0 ⟨by omega, by omega⟩ (by omega) ⟨by omega, by omega⟩ ⟨by omega, by omega⟩ ⟨by omega, by omega⟩ gw10) ci_X11_uniform qm_L_299 ⟨Nat.le_of_ble_eq_true rfl, Nat.le_of_ble_eq_true rfl⟩ (lroom _) [0, 1, 3, 8, 9, 10, 11, 2, 6, 7] [4, 5, 12, 13, 14, 15, 16, 17, 18, 19, 20, 21, 22, 23, 24, 25] rfl rfl rfl (by decide +kernel) (by decide +kernel) (by decide +kernel) 0 rfl rfl rfl hl.1 rfl (Nat.le_of_ble_eq_true rfl) dL_law_2729 (fun u_1 H locs hφ hP hD hS => ?_)
  obtain ⟨I_2, L_3, F_4, G_5⟩ := u_1
  obtain ⟨hP, hD⟩ := PD.by2 (is := [16, 17, 23, 18, 0, 1, 24, 25, 19, 20, 21, 22, 2, 3, 4, 5, 6, 7, 8, 9, 10, 11, 12, 13, 14, 15]) (y := (GA k a (fun i => [(IA 0), (IA 1), (I_2 1), (IA 3), (IA 4), (IA 5), (IA 6), (IA 7), (IA 8), (IA 9), (IA 10), (IA 11), (IA 12), (IA 13), (IA 14), (IA 15), (IA 16), (IA 17), (IA 18)].getD i 0) LA FA QA VA r)) ⟨hP, hD⟩ (by decide +kernel) rfl
  refine W.eq (g2 := F0 m 2732 ls [.int (iZ (I_2 0))]) rfl ?_
  refine lv_pop hx hb dL_law_2732 rfl ?_
  refine lv_aload_n hx hb dL_law_2733 rfl (lv_at hl 1 rfl) ?_
  obtain ⟨hP, hD⟩ := PD.fr5 ⟨hP, hD⟩
  refine CKV2 (As := []) (rest := []) (tl := (GA k a (fun i => [(IA 0), (IA 1), (I_2 1), (IA 3), (IA 4), (IA 5), (IA 6), (IA 7), (IA 8), (IA 9), (IA 10), (IA 11), (IA 12), (IA 13), (IA 14), (IA 15), (IA 16), (IA 17), (IA 18)].getD i 0) LA FA QA VA r) ++ ((GB k a IB LB FB QB VB r) ++ ((GC k a IC LC FC QC VC r) ++ ((GD k a ID LD FD QD VD r) ++ (r.tl))))) hx hb hml hown hts hKK hP hD hS hA (q_uniform l D k (a 106) (a 107) (a 108) (a 109) (a 110) (a 111) (a 112) (a 113) (a 114) (a 115) (a 116) (a 117) (a 118) (a 119) (a 120) (a 121) (a 122) (IR 0) (IR 1) (IR 2) (IR 3) (IR 4) (IR 5) (IR 6) (IR 7) (IR 8) (IR 9) (IR 10) (IR 11) (IR 12) (IR 13) (IR 14) (IR 15) (IR 16) (IR 17) (LR 0) (LR 1) (FR 0) hM) ci_X12_uniform qm_L_302 ⟨Nat.le_of_ble_eq_true rfl, Nat.le_of_ble_eq_true rfl⟩ (lroom _) [0, 1] [2, 3, 4, 5, 6, 7, 8, 9, 10, 11, 12, 13, 14, 15, 16] rfl rfl rfl (by decide +kernel) (by decide +kernel) (by decide +kernel) 0 rfl rfl rfl hl.1 rfl (Nat.le_of_ble_eq_true rfl) dL_law_2734 (fun u_7 H locs hφ hP hD hS => ?_)
  obtain ⟨I_8, L_9, F_10, G_11⟩ := u_7
  obtain ⟨hP, hD⟩ := PD.by2 (is := [15, 16, 0, 1, 2, 3, 4, 5, 6, 7, 8, 9, 10, 11, 12, 13, 14]) (y := (GR k a (fun i => [(I_8 1), (IR 1), (IR 2), (IR 3), (IR 4), (IR 5), (IR 6), (IR 7), (IR 8), (IR 9), (IR 10), (IR 11), (IR 12), (IR 13), (IR 14), (IR 15), (IR 16), (IR 17)].getD i 0) LR FR QR VR r)) ⟨hP, hD⟩ (by decide +kernel) rfl
  refine W.eq (g2 := F0 m 2737 ls [.int (iZ (I_8 0))]) rfl ?_
  refine lv_pop hx hb dL_law_2737 rfl ?_
  refine lv_goto (tgt := 2846) hx hb dL_law_2738 (by decide) ?_
  obtain ⟨hP, hD⟩ := PD.fr5 ⟨hP, hD⟩
  obtain ⟨hP, hD⟩ := PD.fr5 ⟨hP, hD⟩
  obtain ⟨hP, hD⟩ := PD.fr5 ⟨hP, hD⟩
  obtain ⟨hP, hD⟩ := PD.fr5 ⟨hP, hD⟩
  exact hk a (fun i => [(IA 0), (IA 1), (I_2 1), (IA 3), (IA 4), (IA 5), (IA 6), (IA 7), (IA 8), (IA 9), (IA 10), (IA 11), (IA 12), (IA 13), (IA 14), (IA 15), (IA 16), (IA 17), (IA 18)].getD i 0) LA FA QA VA IB LB FB QB VB IC LC FC QC VC ID LD FD QD VD (fun i => [(I_8 1), (IR 1), (IR 2), (IR 3), (IR 4), (IR 5), (IR 6), (IR 7), (IR 8), (IR 9), (IR 10), (IR 11), (IR 12), (IR 13), (IR 14), (IR 15), (IR 16), (IR 17)].getD i 0) LR FR QR VR r H locs ls (show INV _ _ _ _ _ _ _ _ _ _ from ⟨hWI, hWI_0, hWI_1, hWI_2, hrd, htr0, htr1, htr2, htr3, hrgk, hrgt, hdrc, hev, hmk, hM, hMK, hTI, hFS, htd, hlt, rgH, rgS, rgY, hdr, hit, hmmk, heq, htq, hrel⟩) hRT hP hD hS (lv_sub hl [0, 1, 2, 3] rfl)
set_option maxHeartbeats 40000000 in
set_option maxRecDepth 100000 in
theorem law_c69 {p : Program} {e : Env} {s : State} {m : MethodId} {below : List Frame} {meth : Method} {c : Code} (l : Launch) {b L : Nat} {xs : Nat → Int32} {A : Nat → Prop} {D : va_G} {k : Nat → ClassId} {sa sv : Nat} {i : Int} (C : LFX p s m meth c b L xs A D k sa sv) (hi : 0 ≤ i ∧ i + 6 ≤ (L : Int)) (hk : LAT p l e s m below meth c b A D k 2846 i) : LAT p l e s m below meth c b A D k 2741 i := by
  obtain ⟨hx, hb, hr, hml, hown, hts, hKK, hX, hbl, hbA, hA, hAf, hlocks, hSY, hRR, hL⟩ := id C
  intro a IA LA FA QA VA IB LB FB QB VB IC LC FC QC VC ID LD FD QD VD IR LR FR QR VR r H locs ls hI hRT hP hD hS hl
  have hK := hKK.1
  obtain ⟨hP, hD⟩ : PD D A ((GA k a IA LA FA QA VA r) ++ ((GB k a IB LB FB QB VB r) ++ ((GC k a IC LC FC QC VC r) ++ ((GD k a ID LD FD QD VD r) ++ ((GR k a IR LR FR QR VR r) ++ (r.tl)))))) H := ⟨hP, hD⟩
  obtain ⟨hWI, hWI_0, hWI_1, hWI_2, hrd, htr0, htr1, htr2, htr3, hrgk, hrgt, hdrc, hev, hmk, hM, hMK, hTI, hFS, htd, hlt, rgH, rgS, rgY, hdr, hit, hmmk, heq, htq, hrel⟩ := id hI
  obtain ⟨gw1, gw2, gw3, gw4, gw5, gw6, gw7, gw8, gw9, gw10, gw11⟩ := id hWI
  have hx0 := gw9
  have hYI := gw11
  obtain ⟨z1, hz1, hz1a, hz1b⟩ := i32_z (xs (iZ (i + 1)).toNatClampNeg)
  obtain ⟨z2, hz2, hz2a, hz2b⟩ := i32_z (xs (iZ (i + 2)).toNatClampNeg)
  obtain ⟨z3, hz3, hz3a, hz3b⟩ := i32_z (xs (iZ (i + 3)).toNatClampNeg)
  obtain ⟨z4, hz4, hz4a, hz4b⟩ := i32_z (xs (iZ (i + 4)).toNatClampNeg)
  obtain ⟨z5, hz5, hz5a, hz5b⟩ := i32_z (xs (iZ (i + 5)).toNatClampNeg)
  have hl : lv_has ls 4 [(3, .int (iZ i)), (2, .ref (a 106)), (1, .ref (a 0)), (0, .ref b)] := hl
  refine lv_aload_n hx hb dL_law_2741 rfl (lv_at hl 2 rfl) ?_
  refine lv_aload_n hx hb dL_law_2742 rfl (lv_at hl 3 rfl) ?_
  refine lv_iload_n hx hb dL_law_2743 rfl (lv_at hl 0 rfl) ?_
  refine lv_iconst (v := iZ 1) hx hb dL_law_2744 (by decide) ?_
  refine lv_iadd hx hb dL_law_2745 ?_
  refine lv_topi (fun x_1 ex_1 => ?_)
  obtain rfl : x_1 = iZ (i + 1) := ex_1.trans (iZ_add i 1)
  refine va_sld hx hb hX hbl hbA hS (zin (e := (i + 1)) (n := L) ⟨by omega, by omega⟩ (by omega)) dL_law_2746 ?_
  refine lv_topi (fun x_2 ex_2 => ?_)
  obtain rfl : x_2 = iZ z1 := ex_2.trans hz1
  obtain ⟨hP, hD⟩ := PD.mid4 ⟨hP, hD⟩
  refine CXM (mid := (GB k a IB LB FB QB VB r) ++ ((GC k a IC LC FC QC VC r) ++ ((GD k a ID LD FD QD VD r) ++ ((GR k a IR LR FR QR VR r))))) (c0 := 123) (s0 := 16705) (r := r) (As := [.int (iZ z1)]) (rest := []) hx hb hml hown hts hKK hP hD hS hA (p_live l D k (a 0) (a 1) (a 2) (a 3) (a 4) (a 5) (a 6) (a 7) (a 8) (a 9) (a 10) (a 11) (IA 0) (IA 1) (IA 2) (LA 0) (LA 1) ([.ref (a 26), .ref (a 27), .ref (a 28), .int (iZ (IA 3)), .int (iZ (IA 4)), .int (iZ (IA 5)), .int (iZ (IA 6))]) (a 23) (a 27) (a 28) (a 24) (a 25) (IA 3) (IA 4) (IA 5) (FA 0) (FA 1) (a 105) (a 29) (a 30) (a 31) (a 32) (a 101) (a 102) (a 103) (a 104) (a 33) (a 34) (a 35) (a 36) (a 37) (IA 12) (IA 13) (IA 14) (IA 15) (IA 16) (IA 17) (IA 18) (IA 9) (IA 10) (IA 11) (IA 7) (IA 8) (FA 11) (FA 12) (FA 13) (FA 2) (FA 3) (FA 4) (FA 5) (FA 15) (FA 14) (FA 6) (FA 7) (FA 8) (FA 9) (FA 10) (FA 16) z1 r hRT rfl rfl rfl rfl rfl (by omega) hx0 ⟨by omega, by omega⟩ (by omega) ⟨by omega, by omega⟩ ⟨by omega, by omega⟩ hrgk hrgt ⟨by omega, by omega⟩ ⟨by omega, by omega⟩ gw10 ⟨by omega, by omega⟩ hYI (by omega) (by omega) ⟨by omega, by omega⟩) ci_X11_live qm_L_303 ⟨Nat.le_of_ble_eq_true rfl, Nat.le_of_ble_eq_true rfl⟩ ⟨Nat.le_of_ble_eq_true rfl, Nat.le_of_ble_eq_true rfl⟩ [0, 23, 1, 3, 8, 9, 10, 11, 17, 18, 19, 20, 21, 22, 24, 2, 6, 7, 4, 12, 13, 14, 15, 16, 25] [5] rfl rfl rfl (by decide +kernel) (by decide +kernel) (by decide +kernel) 0 rfl rfl rfl hl.1 rfl (Nat.le_of_ble_eq_true rfl) dL_law_2747 (fun u_3 H locs hφ hP hD hS => ?_)
  obtain ⟨r_8, I_4, L_5, F_6, G_7⟩ := u_3
  obtain ⟨p_9, p_10, p_11, p_12, p_13, p_14, p_15, rtr_8⟩ : (0 ≤ (I_4 3) ∧ (I_4 3) ≤ 400) ∧ (0 ≤ (I_4 4) ∧ (I_4 4) ≤ 20) ∧ (0 ≤ (I_4 5) ∧ (I_4 5) ≤ 65535) ∧ (rgI (F_6 1) (-1) 420 6) ∧ (rgI (F_6 2) (-1) 5 6) ∧ (rgI (F_6 5) 0 ((IA 3) - 1) (I_4 4)) ∧ ((I_4 2) = 0 ∨ (I_4 2) = 1) ∧ (RT k r_8) := hφ
  obtain ⟨hP, hD⟩ := PD.dim4 ⟨hP, hD⟩
  obtain ⟨hP, hD⟩ := PD.by2 (is := [1, 3, 16, 4, 19, 0, 17, 18, 5, 6, 7, 8, 20, 21, 22, 23, 24, 9, 10, 11, 12, 13, 14, 2, 15, 25]) (y := (GA k a (fun i => [(I_4 2), (IA 1), (I_4 1), (IA 3), (IA 4), (IA 5), (IA 6), (I_4 3), (I_4 4), (IA 9), (IA 10), (IA 11), (I_4 5), (I_4 6), (I_4 7), (I_4 8), (I_4 9), (I_4 10), (I_4 11)].getD i 0) LA (fun i => [(FA 0), (FA 1), (F_6 4), (F_6 5), (F_6 6), (F_6 7), (FA 6), (FA 7), (FA 8), (FA 9), (FA 10), (F_6 1), (F_6 2), (F_6 3), (F_6 9), (F_6 8), (F_6 0)].getD i (fun _ => 0)) QA VA r_8)) ⟨hP, hD⟩ (by decide +kernel) rfl
  refine W.ceq (cells' := 123 + cz true r_8.b) (slots' := 16705 + sz true r_8.b) rfl rfl ?_
  refine W.eq (g2 := F0 m 2750 ls [.int (iZ (I_4 0))]) rfl ?_
  refine lv_pop hx hb dL_law_2750 rfl ?_
  refine lv_aload_n hx hb dL_law_2751 rfl (lv_at hl 1 rfl) ?_
  refine lv_aload_n hx hb dL_law_2752 rfl (lv_at hl 3 rfl) ?_
  refine lv_iload_n hx hb dL_law_2753 rfl (lv_at hl 0 rfl) ?_
  refine lv_iconst (v := iZ 1) hx hb dL_law_2754 (by decide) ?_
  refine lv_iadd hx hb dL_law_2755 ?_
  refine lv_topi (fun x_16 ex_16 => ?_)
  obtain rfl : x_16 = iZ (i + 1) := ex_16.trans (iZ_add i 1)
  refine va_sld hx hb hX hbl hbA hS (zin (e := (i + 1)) (n := L) ⟨by omega, by omega⟩ (by omega)) dL_law_2756 ?_
  refine lv_topi (fun x_17 ex_17 => ?_)
  obtain rfl : x_17 = iZ z1 := ex_17.trans hz1
  obtain ⟨hP, hD⟩ := PD.fr5 ⟨hP, hD⟩
  refine CKV2 (As := [.int (iZ z1)]) (rest := []) (tl := (GA k a (fun i => [(I_4 2), (IA 1), (I_4 1), (IA 3), (IA 4), (IA 5), (IA 6), (I_4 3), (I_4 4), (IA 9), (IA 10), (IA 11), (I_4 5), (I_4 6), (I_4 7), (I_4 8), (I_4 9), (I_4 10), (I_4 11)].getD i 0) LA (fun i => [(FA 0), (FA 1), (F_6 4), (F_6 5), (F_6 6), (F_6 7), (FA 6), (FA 7), (FA 8), (FA 9), (FA 10), (F_6 1), (F_6 2), (F_6 3), (F_6 9), (F_6 8), (F_6 0)].getD i (fun _ => 0)) QA VA r_8) ++ ((GB k a IB LB FB QB VB r) ++ ((GC k a IC LC FC QC VC r) ++ ((GD k a ID LD FD QD VD r) ++ (r_8.tl))))) hx hb hml hown hts hKK hP hD hS hA (q_live l D k (a 106) (a 107) (a 108) (a 109) (a 110) (a 111) (a 112) (a 113) (a 114) (a 115) (a 116) (a 117) (a 118) (a 119) (a 120) (a 121) (a 122) (IR 0) (IR 1) (IR 2) (IR 3) (IR 4) (IR 5) (IR 6) (IR 7) (IR 8) (IR 9) (IR 10) (IR 11) (IR 12) (IR 13) (IR 14) (IR 15) (IR 16) (IR 17) (LR 0) (LR 1) (FR 0) (FR 6) (FR 7) (FR 8) (FR 9) (FR 11) (FR 12) (FR 13) z1 hM rgH ⟨by omega, by omega⟩ (by omega) ⟨by omega, by omega⟩) ci_X12_live qm_L_306 ⟨Nat.le_of_ble_eq_true rfl, Nat.le_of_ble_eq_true rfl⟩ (lroom _) [0, 1, 9, 10, 11, 12, 14, 15, 16] [2, 3, 4, 5, 6, 7, 8, 13] rfl rfl rfl (by decide +kernel) (by decide +kernel) (by decide +kernel) 0 rfl rfl rfl hl.1 rfl (Nat.le_of_ble_eq_true rfl) dL_law_2757 (fun u_18 H locs hφ hP hD hS => ?_)
  obtain ⟨I_19, L_20, F_21, G_22⟩ := u_18
  obtain ⟨p_24, p_25, p_26, p_27, p_28⟩ : (M0 (F_21 1)) ∧ (CSlowWorldsLaw_law_r2344_c4e851.FR (F_21 1) (FR 0)) ∧ (0 ≤ (I_19 3) ∧ (I_19 3) ≤ 65535) ∧ (rgI (F_21 5) 0 1000000 120) ∧ ((I_19 2) = 0 ∨ (I_19 2) = 1) := hφ
  obtain ⟨hP, hD⟩ := PD.by2 (is := [8, 9, 0, 1, 2, 3, 4, 5, 6, 10, 11, 12, 13, 7, 14, 15, 16]) (y := (GR k a (fun i => [(I_19 1), (IR 1), (IR 2), (IR 3), (IR 4), (IR 5), (IR 6), (IR 7), (IR 8), (IR 9), (IR 10), (IR 11), (IR 12), (IR 13), (I_19 3), (I_19 4), (I_19 2), (IR 17)].getD i 0) LR (fun i => [(F_21 1), (FR 1), (FR 2), (FR 3), (FR 4), (FR 5), (F_21 2), (F_21 3), (F_21 4), (F_21 5), (FR 10), (F_21 6), (F_21 7), (F_21 0)].getD i (fun _ => 0)) QR VR r_8)) ⟨hP, hD⟩ (by decide +kernel) rfl
  refine W.eq (g2 := F0 m 2760 ls [.int (iZ (I_19 0))]) rfl ?_
  refine lv_pop hx hb dL_law_2760 rfl ?_
  refine lv_goto (tgt := 2846) hx hb dL_law_2761 (by decide) ?_
  obtain ⟨hP, hD⟩ := PD.fr5 ⟨hP, hD⟩
  obtain ⟨hP, hD⟩ := PD.fr5 ⟨hP, hD⟩
  obtain ⟨hP, hD⟩ := PD.fr5 ⟨hP, hD⟩
  obtain ⟨hP, hD⟩ := PD.fr5 ⟨hP, hD⟩
  exact hk a (fun i => [(I_4 2), (IA 1), (I_4 1), (IA 3), (IA 4), (IA 5), (IA 6), (I_4 3), (I_4 4), (IA 9), (IA 10), (IA 11), (I_4 5), (I_4 6), (I_4 7), (I_4 8), (I_4 9), (I_4 10), (I_4 11)].getD i 0) LA (fun i => [(FA 0), (FA 1), (F_6 4), (F_6 5), (F_6 6), (F_6 7), (FA 6), (FA 7), (FA 8), (FA 9), (FA 10), (F_6 1), (F_6 2), (F_6 3), (F_6 9), (F_6 8), (F_6 0)].getD i (fun _ => 0)) QA VA IB LB FB QB VB IC LC FC QC VC ID LD FD QD VD (fun i => [(I_19 1), (IR 1), (IR 2), (IR 3), (IR 4), (IR 5), (IR 6), (IR 7), (IR 8), (IR 9), (IR 10), (IR 11), (IR 12), (IR 13), (I_19 3), (I_19 4), (I_19 2), (IR 17)].getD i 0) LR (fun i => [(F_21 1), (FR 1), (FR 2), (FR 3), (FR 4), (FR 5), (F_21 2), (F_21 3), (F_21 4), (F_21 5), (FR 10), (F_21 6), (F_21 7), (F_21 0)].getD i (fun _ => 0)) QR VR r_8 H locs ls (show INV _ _ _ _ _ _ _ _ _ _ from ⟨(show WI (IA 3) (IA 4) (IA 5) (I_4 3) (I_4 4) (IA 9) (IA 10) (IA 11) (FA 0) (F_6 5) (FA 6) (FA 7) (FA 9) (FA 10) from (by first | assumption | exact ⟨by omega, by omega, by omega, by omega, by omega, by omega, by omega, by omega, by first | exact gw9 | assumption, by first | exact gw10 | assumption, by first | exact gw11 | assumption⟩)), hWI_0, hWI_1, hWI_2, hrd, htr0, htr1, htr2, htr3, (show rgI (F_6 1) (-1) 420 6 from (by assumption)), (show rgI (F_6 2) (-1) 5 6 from (by assumption)), (show 0 ≤ (I_4 5) ∧ (I_4 5) ≤ 65535 from (by omega)), (show (I_4 2) = 0 ∨ (I_4 2) = 1 from (by omega)), hmk, (show M0 (F_21 1) from (by assumption)), (show MK (F_21 1) (IR 17) from MK.keep (by omega) hMK (fun e h1 h2 => p_25.1 e (Or.inl (by omega)))), hTI, hFS, htd, hlt, (show rgI (F_21 5) 0 1000000 120 from (by assumption)), rgS, rgY, (show 0 ≤ (I_19 3) ∧ (I_19 3) ≤ 65535 from (by omega)), (show (I_19 2) = 0 ∨ (I_19 2) = 1 from (by omega)), hmmk, heq, htq, hrel⟩) rtr_8 hP hD hS (lv_sub hl [0, 1, 2, 3] rfl)
set_option maxHeartbeats 40000000 in
set_option maxRecDepth 100000 in
theorem law_c70 {p : Program} {e : Env} {s : State} {m : MethodId} {below : List Frame} {meth : Method} {c : Code} (l : Launch) {b L : Nat} {xs : Nat → Int32} {A : Nat → Prop} {D : va_G} {k : Nat → ClassId} {sa sv : Nat} {i : Int} (C : LFX p s m meth c b L xs A D k sa sv) (hi : 0 ≤ i ∧ i + 6 ≤ (L : Int)) (hk : LAT p l e s m below meth c b A D k 2846 i) : LAT p l e s m below meth c b A D k 2764 i := by
  obtain ⟨hx, hb, hr, hml, hown, hts, hKK, hX, hbl, hbA, hA, hAf, hlocks, hSY, hRR, hL⟩ := id C
  intro a IA LA FA QA VA IB LB FB QB VB IC LC FC QC VC ID LD FD QD VD IR LR FR QR VR r H locs ls hI hRT hP hD hS hl
  have hK := hKK.1
  obtain ⟨hP, hD⟩ : PD D A ((GA k a IA LA FA QA VA r) ++ ((GB k a IB LB FB QB VB r) ++ ((GC k a IC LC FC QC VC r) ++ ((GD k a ID LD FD QD VD r) ++ ((GR k a IR LR FR QR VR r) ++ (r.tl)))))) H := ⟨hP, hD⟩
  obtain ⟨hWI, hWI_0, hWI_1, hWI_2, hrd, htr0, htr1, htr2, htr3, hrgk, hrgt, hdrc, hev, hmk, hM, hMK, hTI, hFS, htd, hlt, rgH, rgS, rgY, hdr, hit, hmmk, heq, htq, hrel⟩ := id hI
  obtain ⟨gw1, gw2, gw3, gw4, gw5, gw6, gw7, gw8, gw9, gw10, gw11⟩ := id hWI
  have hx0 := gw9
  have hYI := gw11
  obtain ⟨z1, hz1, hz1a, hz1b⟩ := i32_z (xs (iZ (i + 1)).toNatClampNeg)
  obtain ⟨z2, hz2, hz2a, hz2b⟩ := i32_z (xs (iZ (i + 2)).toNatClampNeg)
  obtain ⟨z3, hz3, hz3a, hz3b⟩ := i32_z (xs (iZ (i + 3)).toNatClampNeg)
  obtain ⟨z4, hz4, hz4a, hz4b⟩ := i32_z (xs (iZ (i + 4)).toNatClampNeg)
  obtain ⟨z5, hz5, hz5a, hz5b⟩ := i32_z (xs (iZ (i + 5)).toNatClampNeg)
  have hl : lv_has ls 4 [(3, .int (iZ i)), (2, .ref (a 106)), (1, .ref (a 0)), (0, .ref b)] := hl
  refine lv_aload_n hx hb dL_law_2764 rfl (lv_at hl 2 rfl) ?_
  refine lv_aload_n hx hb dL_law_2765 rfl (lv_at hl 3 rfl) ?_
  refine lv_iload_n hx hb dL_law_2766 rfl (lv_at hl 0 rfl) ?_
  refine lv_iconst (v := iZ 1) hx hb dL_law_2767 (by decide) ?_
  refine lv_iadd hx hb dL_law_2768 ?_
  refine lv_topi (fun x_1 ex_1 => ?_)
  obtain rfl : x_1 = iZ (i + 1) := ex_1.trans (iZ_add i 1)
  refine va_sld hx hb hX hbl hbA hS (zin (e := (i + 1)) (n := L) ⟨by omega, by omega⟩ (by omega)) dL_law_2769 ?_
  refine lv_topi (fun x_2 ex_2 => ?_)
  obtain rfl : x_2 = iZ z1 := ex_2.trans hz1
  refine CKV2 (As := [.int (iZ z1)]) (rest := []) (tl := (GB k a IB LB FB QB VB r) ++ ((GC k a IC LC FC QC VC r) ++ ((GD k a ID LD FD QD VD r) ++ ((GR k a IR LR FR QR VR r) ++ (r.tl))))) hx hb hml hown hts hKK hP hD hS hA (p_lived l D k (a 0) (a 1) (a 2) (a 3) (a 4) (a 5) (a 6) (a 7) (a 8) (a 9) (a 10) (a 11) (IA 0) (IA 1) (IA 2) (LA 0) (LA 1) (FA 16) z1 (by omega) ⟨by omega, by omega⟩) ci_X11_lived qm_L_307 ⟨Nat.le_of_ble_eq_true rfl, Nat.le_of_ble_eq_true rfl⟩ (lroom _) [0, 25] [1, 2, 3, 4, 5, 6, 7, 8, 9, 10, 11, 12, 13, 14, 15, 16, 17, 18, 19, 20, 21, 22, 23, 24] rfl rfl rfl (by decide +kernel) (by decide +kernel) (by decide +kernel) 0 rfl rfl rfl hl.1 rfl (Nat.le_of_ble_eq_true rfl) dL_law_2770 (fun u_3 H locs hφ hP hD hS => ?_)
  obtain ⟨I_4, L_5, F_6, G_7⟩ := u_3
  obtain ⟨hP, hD⟩ := PD.by2 (is := [24, 0, 1, 2, 3, 4, 5, 6, 7, 8, 9, 10, 11, 12, 13, 14, 15, 16, 17, 18, 19, 20, 21, 22, 23, 25]) (y := (GA k a (fun i => [(IA 0), (IA 1), (I_4 1), (IA 3), (IA 4), (IA 5), (IA 6), (IA 7), (IA 8), (IA 9), (IA 10), (IA 11), (IA 12), (IA 13), (IA 14), (IA 15), (IA 16), (IA 17), (IA 18)].getD i 0) LA FA QA VA r)) ⟨hP, hD⟩ (by decide +kernel) rfl
  refine W.eq (g2 := F0 m 2773 ls [.int (iZ (I_4 0))]) rfl ?_
  refine lv_pop hx hb dL_law_2773 rfl ?_
  refine lv_aload_n hx hb dL_law_2774 rfl (lv_at hl 1 rfl) ?_
  refine lv_aload_n hx hb dL_law_2775 rfl (lv_at hl 3 rfl) ?_
  refine lv_iload_n hx hb dL_law_2776 rfl (lv_at hl 0 rfl) ?_
  refine lv_iconst (v := iZ 1) hx hb dL_law_2777 (by decide) ?_
  refine lv_iadd hx hb dL_law_2778 ?_
  refine lv_topi (fun x_9 ex_9 => ?_)
  obtain rfl : x_9 = iZ (i + 1) := ex_9.trans (iZ_add i 1)
  refine va_sld hx hb hX hbl hbA hS (zin (e := (i + 1)) (n := L) ⟨by omega, by omega⟩ (by omega)) dL_law_2779 ?_
  refine lv_topi (fun x_10 ex_10 => ?_)
  obtain rfl : x_10 = iZ z1 := ex_10.trans hz1
  obtain ⟨hP, hD⟩ := PD.fr5 ⟨hP, hD⟩
  refine CKV2 (As := [.int (iZ z1)]) (rest := []) (tl := (GA k a (fun i => [(IA 0), (IA 1), (I_4 1), (IA 3), (IA 4), (IA 5), (IA 6), (IA 7), (IA 8), (IA 9), (IA 10), (IA 11), (IA 12), (IA 13), (IA 14), (IA 15), (IA 16), (IA 17), (IA 18)].getD i 0) LA FA QA VA r) ++ ((GB k a IB LB FB QB VB r) ++ ((GC k a IC LC FC QC VC r) ++ ((GD k a ID LD FD QD VD r) ++ (r.tl))))) hx hb hml hown hts hKK hP hD hS hA (q_lived l D k (a 106) (a 107) (a 108) (a 109) (a 110) (a 111) (a 112) (a 113) (a 114) (a 115) (a 116) (a 117) (a 118) (a 119) (a 120) (a 121) (a 122) (IR 0) (IR 1) (IR 2) (IR 3) (IR 4) (IR 5) (IR 6) (IR 7) (IR 8) (IR 9) (IR 10) (IR 11) (IR 12) (IR 13) (IR 14) (IR 15) (IR 16) (IR 17) (LR 0) (LR 1) (FR 0) (FR 13) z1 hM (by omega) ⟨by omega, by omega⟩) ci_X12_lived qm_L_310 ⟨Nat.le_of_ble_eq_true rfl, Nat.le_of_ble_eq_true rfl⟩ (lroom _) [0, 1, 16] [2, 3, 4, 5, 6, 7, 8, 9, 10, 11, 12, 13, 14, 15] rfl rfl rfl (by decide +kernel) (by decide +kernel) (by decide +kernel) 0 rfl rfl rfl hl.1 rfl (Nat.le_of_ble_eq_true rfl) dL_law_2780 (fun u_11 H locs hφ hP hD hS => ?_)
  obtain ⟨I_12, L_13, F_14, G_15⟩ := u_11
  obtain ⟨hP, hD⟩ := PD.by2 (is := [14, 15, 0, 1, 2, 3, 4, 5, 6, 7, 8, 9, 10, 11, 12, 13, 16]) (y := (GR k a (fun i => [(I_12 1), (IR 1), (IR 2), (IR 3), (IR 4), (IR 5), (IR 6), (IR 7), (IR 8), (IR 9), (IR 10), (IR 11), (IR 12), (IR 13), (IR 14), (IR 15), (IR 16), (IR 17)].getD i 0) LR FR QR VR r)) ⟨hP, hD⟩ (by decide +kernel) rfl
  refine W.eq (g2 := F0 m 2783 ls [.int (iZ (I_12 0))]) rfl ?_
  refine lv_pop hx hb dL_law_2783 rfl ?_
  refine lv_goto (tgt := 2846) hx hb dL_law_2784 (by decide) ?_
  obtain ⟨hP, hD⟩ := PD.fr5 ⟨hP, hD⟩
  obtain ⟨hP, hD⟩ := PD.fr5 ⟨hP, hD⟩
  obtain ⟨hP, hD⟩ := PD.fr5 ⟨hP, hD⟩
  obtain ⟨hP, hD⟩ := PD.fr5 ⟨hP, hD⟩
  exact hk a (fun i => [(IA 0), (IA 1), (I_4 1), (IA 3), (IA 4), (IA 5), (IA 6), (IA 7), (IA 8), (IA 9), (IA 10), (IA 11), (IA 12), (IA 13), (IA 14), (IA 15), (IA 16), (IA 17), (IA 18)].getD i 0) LA FA QA VA IB LB FB QB VB IC LC FC QC VC ID LD FD QD VD (fun i => [(I_12 1), (IR 1), (IR 2), (IR 3), (IR 4), (IR 5), (IR 6), (IR 7), (IR 8), (IR 9), (IR 10), (IR 11), (IR 12), (IR 13), (IR 14), (IR 15), (IR 16), (IR 17)].getD i 0) LR FR QR VR r H locs ls (show INV _ _ _ _ _ _ _ _ _ _ from ⟨hWI, hWI_0, hWI_1, hWI_2, hrd, htr0, htr1, htr2, htr3, hrgk, hrgt, hdrc, hev, hmk, hM, hMK, hTI, hFS, htd, hlt, rgH, rgS, rgY, hdr, hit, hmmk, heq, htq, hrel⟩) hRT hP hD hS (lv_sub hl [0, 1, 2, 3] rfl)
set_option maxHeartbeats 40000000 in
set_option maxRecDepth 100000 in
theorem law_c71 {p : Program} {e : Env} {s : State} {m : MethodId} {below : List Frame} {meth : Method} {c : Code} (l : Launch) {b L : Nat} {xs : Nat → Int32} {A : Nat → Prop} {D : va_G} {k : Nat → ClassId} {sa sv : Nat} {i : Int} (C : LFX p s m meth c b L xs A D k sa sv) (hi : 0 ≤ i ∧ i + 6 ≤ (L : Int)) (hk : LAT p l e s m below meth c b A D k 2846 i) : LAT p l e s m below meth c b A D k 2787 i := by
  obtain ⟨hx, hb, hr, hml, hown, hts, hKK, hX, hbl, hbA, hA, hAf, hlocks, hSY, hRR, hL⟩ := id C
  intro a IA LA FA QA VA IB LB FB QB VB IC LC FC QC VC ID LD FD QD VD IR LR FR QR VR r H locs ls hI hRT hP hD hS hl
  have hK := hKK.1
  obtain ⟨hP, hD⟩ : PD D A ((GA k a IA LA FA QA VA r) ++ ((GB k a IB LB FB QB VB r) ++ ((GC k a IC LC FC QC VC r) ++ ((GD k a ID LD FD QD VD r) ++ ((GR k a IR LR FR QR VR r) ++ (r.tl)))))) H := ⟨hP, hD⟩
  obtain ⟨hWI, hWI_0, hWI_1, hWI_2, hrd, htr0, htr1, htr2, htr3, hrgk, hrgt, hdrc, hev, hmk, hM, hMK, hTI, hFS, htd, hlt, rgH, rgS, rgY, hdr, hit, hmmk, heq, htq, hrel⟩ := id hI
  obtain ⟨gw1, gw2, gw3, gw4, gw5, gw6, gw7, gw8, gw9, gw10, gw11⟩ := id hWI
  have hx0 := gw9
  have hYI := gw11
  obtain ⟨z1, hz1, hz1a, hz1b⟩ := i32_z (xs (iZ (i + 1)).toNatClampNeg)
  obtain ⟨z2, hz2, hz2a, hz2b⟩ := i32_z (xs (iZ (i + 2)).toNatClampNeg)
  obtain ⟨z3, hz3, hz3a, hz3b⟩ := i32_z (xs (iZ (i + 3)).toNatClampNeg)
  obtain ⟨z4, hz4, hz4a, hz4b⟩ := i32_z (xs (iZ (i + 4)).toNatClampNeg)
  obtain ⟨z5, hz5, hz5a, hz5b⟩ := i32_z (xs (iZ (i + 5)).toNatClampNeg)
  have hl : lv_has ls 4 [(3, .int (iZ i)), (2, .ref (a 106)), (1, .ref (a 0)), (0, .ref b)] := hl
  refine lv_aload_n hx hb dL_law_2787 rfl (lv_at hl 2 rfl) ?_
  refine lv_aload_n hx hb dL_law_2788 rfl (lv_at hl 3 rfl) ?_
  refine lv_iload_n hx hb dL_law_2789 rfl (lv_at hl 0 rfl) ?_
  refine lv_iconst (v := iZ 1) hx hb dL_law_2790 (by decide) ?_
  refine lv_iadd hx hb dL_law_2791 ?_
  refine lv_topi (fun x_1 ex_1 => ?_)
  obtain rfl : x_1 = iZ (i + 1) := ex_1.trans (iZ_add i 1)
  refine va_sld hx hb hX hbl hbA hS (zin (e := (i + 1)) (n := L) ⟨by omega, by omega⟩ (by omega)) dL_law_2792 ?_
  refine lv_topi (fun x_2 ex_2 => ?_)
  obtain rfl : x_2 = iZ z1 := ex_2.trans hz1
  refine lv_aload_n hx hb dL_law_2793 rfl (lv_at hl 3 rfl) ?_
  refine lv_iload_n hx hb dL_law_2794 rfl (lv_at hl 0 rfl) ?_
  refine lv_iconst (v := iZ 2) hx hb dL_law_2795 (by decide) ?_
  refine lv_iadd hx hb dL_law_2796 ?_
  refine lv_topi (fun x_3 ex_3 => ?_)
  obtain rfl : x_3 = iZ (i + 2) := ex_3.trans (iZ_add i 2)
  refine va_sld hx hb hX hbl hbA hS (zin (e := (i + 2)) (n := L) ⟨by omega, by omega⟩ (by omega)) dL_law_2797 ?_
  refine lv_topi (fun x_4 ex_4 => ?_)
  obtain rfl : x_4 = iZ z2 := ex_4.trans hz2
  obtain ⟨hP, hD⟩ := PD.fr3 ⟨hP, hD⟩
  obtain ⟨hP, hD⟩ := PD.swap ⟨hP, hD⟩
  obtain ⟨hP, hD⟩ := PD.sa2 ⟨hP, hD⟩
  obtain ⟨hP, hD⟩ := PD.mid3 ⟨hP, hD⟩
  refine CXM (mid := (GB k a IB LB FB QB VB r) ++ ((GD k a ID LD FD QD VD r) ++ ((GR k a IR LR FR QR VR r)))) (c0 := 123) (s0 := 16705) (r := r) (As := [.int (iZ z1), .int (iZ z2)]) (rest := []) hx hb hml hown hts hKK hP hD hS hA (p_mean l D k (a 0) (a 1) (a 2) (a 3) (a 4) (a 5) (a 6) (a 7) (a 8) (a 9) (a 10) (a 11) (IA 0) (IA 1) (IA 2) (LA 0) (LA 1) ([.ref (a 26), .ref (a 27), .ref (a 28), .int (iZ (IA 3)), .int (iZ (IA 4)), .int (iZ (IA 5)), .int (iZ (IA 6))]) (a 23) (a 27) (a 28) (a 24) (a 25) (IA 3) (IA 4) (IA 5) (FA 0) (FA 1) (a 105) (a 29) (a 30) (a 31) (a 32) (a 101) (a 102) (a 103) (a 104) (a 33) (a 34) (a 35) (a 36) (a 37) (IA 12) (IA 13) (IA 14) (IA 15) (IA 16) (IA 17) (IA 18) (IA 9) (IA 10) (IA 11) (IA 7) (IA 8) (FA 11) (FA 12) (FA 13) (FA 2) (FA 3) (FA 4) (FA 5) (FA 15) (FA 14) (FA 6) (FA 7) (FA 8) (FA 9) (FA 10) (a 38) (a 39) (a 40) (a 44) (a 45) (a 46) (a 47) (IC 15) (IC 16) (FC 4) (FC 5) (FC 6) (FC 7) z1 z2 r hRT rfl rfl rfl rfl rfl (by omega) hx0 ⟨by omega, by omega⟩ (by omega) ⟨by omega, by omega⟩ ⟨by omega, by omega⟩ hrgk hrgt ⟨by omega, by omega⟩ ⟨by omega, by omega⟩ gw10 ⟨by omega, by omega⟩ hYI (by omega) ⟨by omega, by omega⟩ ⟨by omega, by omega⟩) ci_X11_mean qm_L_311 ⟨Nat.le_of_ble_eq_true rfl, Nat.le_of_ble_eq_true rfl⟩ ⟨Nat.le_of_ble_eq_true rfl, Nat.le_of_ble_eq_true rfl⟩ [0, 23, 1, 3, 8, 9, 10, 11, 17, 18, 19, 20, 21, 22, 24, 2, 6, 7, 4, 12, 13, 14, 15, 16, 32, 34, 39, 40, 41, 42] [5, 25, 26, 27, 28, 29, 30, 31, 33, 35, 36, 37, 38, 43, 44, 45, 46, 47] rfl rfl rfl (by decide +kernel) (by decide +kernel) (by decide +kernel) 0 rfl rfl rfl hl.1 rfl (Nat.le_of_ble_eq_true rfl) dL_law_2798 (fun u_5 H locs hφ hP hD hS => ?_)
  obtain ⟨r_10, I_6, L_7, F_8, G_9⟩ := u_5
  obtain ⟨p_11, p_12, p_13, p_14, p_15, p_16, rtr_10⟩ : (0 ≤ (I_6 4) ∧ (I_6 4) ≤ 400) ∧ (0 ≤ (I_6 5) ∧ (I_6 5) ≤ 20) ∧ (0 ≤ (I_6 6) ∧ (I_6 6) ≤ 65535) ∧ (rgI (F_8 4) (-1) 420 6) ∧ (rgI (F_8 5) (-1) 5 6) ∧ (rgI (F_8 8) 0 ((IA 3) - 1) (I_6 5)) ∧ (RT k r_10) := hφ
  obtain ⟨hP, hD⟩ := PD.dim3 ⟨hP, hD⟩
  obtain ⟨hP, hD⟩ := PD.by2 (is := [18, 20, 33, 21, 36, 0, 34, 35, 22, 23, 24, 25, 37, 38, 39, 40, 41, 26, 27, 28, 29, 30, 31, 19, 32, 1, 2, 3, 4, 5, 6, 7, 42, 8, 43, 9, 10, 11, 12, 44, 45, 46, 47, 13, 14, 15, 16, 17]) (y := (GA k a (fun i => [(IA 0), (IA 1), (I_6 1), (IA 3), (IA 4), (IA 5), (IA 6), (I_6 4), (I_6 5), (IA 9), (IA 10), (IA 11), (I_6 6), (I_6 7), (I_6 8), (I_6 9), (I_6 10), (I_6 11), (I_6 12)].getD i 0) (fun i => [(L_7 1), (L_7 2)].getD i 0) (fun i => [(FA 0), (FA 1), (F_8 7), (F_8 8), (F_8 9), (F_8 10), (FA 6), (FA 7), (FA 8), (FA 9), (FA 10), (F_8 4), (F_8 5), (F_8 6), (F_8 12), (F_8 11), (FA 16)].getD i (fun _ => 0)) QA VA r_10) ++ ((GC k a (fun i => [(IC 0), (IC 1), (IC 2), (IC 3), (IC 4), (IC 5), (IC 6), (IC 7), (IC 8), (IC 9), (IC 10), (IC 11), (IC 12), (IC 13), (IC 14), (I_6 2), (I_6 3), (IC 17), (IC 18), (IC 19)].getD i 0) LC (fun i => [(FC 0), (FC 1), (FC 2), (FC 3), (F_8 0), (F_8 1), (F_8 2), (F_8 3), (FC 8), (FC 9), (FC 10), (FC 11), (FC 12)].getD i (fun _ => 0)) QC VC r_10))) ⟨hP, hD⟩ (by decide +kernel) rfl
  obtain ⟨hP, hD⟩ := PD.as2 ⟨hP, hD⟩
  refine W.ceq (cells' := 123 + cz true r_10.b) (slots' := 16705 + sz true r_10.b) rfl rfl ?_
  refine W.eq (g2 := F0 m 2801 ls [.int (iZ (I_6 0))]) rfl ?_
  refine lv_pop hx hb dL_law_2801 rfl ?_
  refine lv_aload_n hx hb dL_law_2802 rfl (lv_at hl 1 rfl) ?_
  refine lv_aload_n hx hb dL_law_2803 rfl (lv_at hl 3 rfl) ?_
  refine lv_iload_n hx hb dL_law_2804 rfl (lv_at hl 0 rfl) ?_
  refine lv_iconst (v := iZ 1) hx hb dL_law_2805 (by decide) ?_
  refine lv_iadd hx hb dL_law_2806 ?_
  refine lv_topi (fun x_17 ex_17 => ?_)
  obtain rfl : x_17 = iZ (i + 1) := ex_17.trans (iZ_add i 1)
  refine va_sld hx hb hX hbl hbA hS (zin (e := (i + 1)) (n := L) ⟨by omega, by omega⟩ (by omega)) dL_law_2807 ?_
  refine lv_topi (fun x_18 ex_18 => ?_)
  obtain rfl : x_18 = iZ z1 := ex_18.trans hz1
  refine lv_aload_n hx hb dL_law_2808 rfl (lv_at hl 3 rfl) ?_
  refine lv_iload_n hx hb dL_law_2809 rfl (lv_at hl 0 rfl) ?_
  refine lv_iconst (v := iZ 2) hx hb dL_law_2810 (by decide) ?_
  refine lv_iadd hx hb dL_law_2811 ?_
  refine lv_topi (fun x_19 ex_19 => ?_)
  obtain rfl : x_19 = iZ (i + 2) := ex_19.trans (iZ_add i 2)
  refine va_sld hx hb hX hbl hbA hS (zin (e := (i + 2)) (n := L) ⟨by omega, by omega⟩ (by omega)) dL_law_2812 ?_
  refine lv_topi (fun x_20 ex_20 => ?_)
  obtain rfl : x_20 = iZ z2 := ex_20.trans hz2
  obtain ⟨hP, hD⟩ := PD.fr5 ⟨hP, hD⟩
  refine CKV2 (As := [.int (iZ z1), .int (iZ z2)]) (rest := []) (tl := (GA k a (fun i => [(IA 0), (IA 1), (I_6 1), (IA 3), (IA 4), (IA 5), (IA 6), (I_6 4), (I_6 5), (IA 9), (IA 10), (IA 11), (I_6 6), (I_6 7), (I_6 8), (I_6 9), (I_6 10), (I_6 11), (I_6 12)].getD i 0) (fun i => [(L_7 1), (L_7 2)].getD i 0) (fun i => [(FA 0), (FA 1), (F_8 7), (F_8 8), (F_8 9), (F_8 10), (FA 6), (FA 7), (FA 8), (FA 9), (FA 10), (F_8 4), (F_8 5), (F_8 6), (F_8 12), (F_8 11), (FA 16)].getD i (fun _ => 0)) QA VA r_10) ++ ((GC k a (fun i => [(IC 0), (IC 1), (IC 2), (IC 3), (IC 4), (IC 5), (IC 6), (IC 7), (IC 8), (IC 9), (IC 10), (IC 11), (IC 12), (IC 13), (IC 14), (I_6 2), (I_6 3), (IC 17), (IC 18), (IC 19)].getD i 0) LC (fun i => [(FC 0), (FC 1), (FC 2), (FC 3), (F_8 0), (F_8 1), (F_8 2), (F_8 3), (FC 8), (FC 9), (FC 10), (FC 11), (FC 12)].getD i (fun _ => 0)) QC VC r_10) ++ ((GB k a IB LB FB QB VB r) ++ ((GD k a ID LD FD QD VD r) ++ (r_10.tl))))) hx hb hml hown hts hKK hP hD hS hA (q_mean l D k (a 106) (a 107) (a 108) (a 109) (a 110) (a 111) (a 112) (a 113) (a 114) (a 115) (a 116) (a 117) (a 118) (a 119) (a 120) (a 121) (a 122) (IR 0) (IR 1) (IR 2) (IR 3) (IR 4) (IR 5) (IR 6) (IR 7) (IR 8) (IR 9) (IR 10) (IR 11) (IR 12) (IR 13) (IR 14) (IR 15) (IR 16) (IR 17) (LR 0) (LR 1) (FR 0) (FR 6) (FR 7) (FR 8) (FR 9) (FR 11) (FR 12) z1 z2 hM rgH ⟨by omega, by omega⟩ ⟨by omega, by omega⟩ ⟨by omega, by omega⟩) ci_X12_mean qm_L_314 ⟨Nat.le_of_ble_eq_true rfl, Nat.le_of_ble_eq_true rfl⟩ (lroom _) [0, 1, 9, 10, 11, 12, 14, 15] [2, 3, 4, 5, 6, 7, 8, 13, 16] rfl rfl rfl (by decide +kernel) (by decide +kernel) (by decide +kernel) 0 rfl rfl rfl hl.1 rfl (Nat.le_of_ble_eq_true rfl) dL_law_2813 (fun u_21 H locs hφ hP hD hS => ?_)
  obtain ⟨I_22, L_23, F_24, G_25⟩ := u_21
  obtain ⟨p_27, p_28, p_29, p_30⟩ : (M0 (F_24 0)) ∧ (∀ e : Int, 520 ≤ e → e < 4450 → gz (F_24 0) e = gz (FR 0) e) ∧ (0 ≤ (I_22 2) ∧ (I_22 2) ≤ 65535) ∧ (rgI (F_24 4) 0 1000000 120) := hφ
  obtain ⟨hP, hD⟩ := PD.by2 (is := [9, 10, 0, 1, 2, 3, 4, 5, 6, 11, 12, 13, 14, 7, 15, 16, 8]) (y := (GR k a (fun i => [(I_22 1), (IR 1), (IR 2), (IR 3), (IR 4), (IR 5), (IR 6), (IR 7), (IR 8), (IR 9), (IR 10), (IR 11), (IR 12), (IR 13), (I_22 2), (I_22 3), (IR 16), (IR 17)].getD i 0) (fun i => [(L_23 1), (L_23 2)].getD i 0) (fun i => [(F_24 0), (FR 1), (FR 2), (FR 3), (FR 4), (FR 5), (F_24 1), (F_24 2), (F_24 3), (F_24 4), (FR 10), (F_24 5), (F_24 6), (FR 13)].getD i (fun _ => 0)) QR VR r_10)) ⟨hP, hD⟩ (by decide +kernel) rfl
  refine W.eq (g2 := F0 m 2816 ls [.int (iZ (I_22 0))]) rfl ?_
  refine lv_pop hx hb dL_law_2816 rfl ?_
  refine lv_goto (tgt := 2846) hx hb dL_law_2817 (by decide) ?_
  obtain ⟨hP, hD⟩ := PD.fr5 ⟨hP, hD⟩
  obtain ⟨hP, hD⟩ := PD.fr4 ⟨hP, hD⟩
  obtain ⟨hP, hD⟩ := PD.fr5 ⟨hP, hD⟩
  obtain ⟨hP, hD⟩ := PD.fr5 ⟨hP, hD⟩
  exact hk a (fun i => [(IA 0), (IA 1), (I_6 1), (IA 3), (IA 4), (IA 5), (IA 6), (I_6 4), (I_6 5), (IA 9), (IA 10), (IA 11), (I_6 6), (I_6 7), (I_6 8), (I_6 9), (I_6 10), (I_6 11), (I_6 12)].getD i 0) (fun i => [(L_7 1), (L_7 2)].getD i 0) (fun i => [(FA 0), (FA 1), (F_8 7), (F_8 8), (F_8 9), (F_8 10), (FA 6), (FA 7), (FA 8), (FA 9), (FA 10), (F_8 4), (F_8 5), (F_8 6), (F_8 12), (F_8 11), (FA 16)].getD i (fun _ => 0)) QA VA IB LB FB QB VB (fun i => [(IC 0), (IC 1), (IC 2), (IC 3), (IC 4), (IC 5), (IC 6), (IC 7), (IC 8), (IC 9), (IC 10), (IC 11), (IC 12), (IC 13), (IC 14), (I_6 2), (I_6 3), (IC 17), (IC 18), (IC 19)].getD i 0) LC (fun i => [(FC 0), (FC 1), (FC 2), (FC 3), (F_8 0), (F_8 1), (F_8 2), (F_8 3), (FC 8), (FC 9), (FC 10), (FC 11), (FC 12)].getD i (fun _ => 0)) QC VC ID LD FD QD VD (fun i => [(I_22 1), (IR 1), (IR 2), (IR 3), (IR 4), (IR 5), (IR 6), (IR 7), (IR 8), (IR 9), (IR 10), (IR 11), (IR 12), (IR 13), (I_22 2), (I_22 3), (IR 16), (IR 17)].getD i 0) (fun i => [(L_23 1), (L_23 2)].getD i 0) (fun i => [(F_24 0), (FR 1), (FR 2), (FR 3), (FR 4), (FR 5), (F_24 1), (F_24 2), (F_24 3), (F_24 4), (FR 10), (F_24 5), (F_24 6), (FR 13)].getD i (fun _ => 0)) QR VR r_10 H locs ls (show INV _ _ _ _ _ _ _ _ _ _ from ⟨(show WI (IA 3) (IA 4) (IA 5) (I_6 4) (I_6 5) (IA 9) (IA 10) (IA 11) (FA 0) (F_8 8) (FA 6) (FA 7) (FA 9) (FA 10) from (by first | assumption | exact ⟨by omega, by omega, by omega, by omega, by omega, by omega, by omega, by omega, by first | exact gw9 | assumption, by first | exact gw10 | assumption, by first | exact gw11 | assumption⟩)), hWI_0, hWI_1, hWI_2, hrd, htr0, htr1, htr2, htr3, (show rgI (F_8 4) (-1) 420 6 from (by assumption)), (show rgI (F_8 5) (-1) 5 6 from (by assumption)), (show 0 ≤ (I_6 6) ∧ (I_6 6) ≤ 65535 from (by omega)), hev, hmk, (show M0 (F_24 0) from (by assumption)), (show MK (F_24 0) (IR 17) from MK.keep (by omega) hMK (fun e h1 h2 => p_28 e (by omega) (by omega))), hTI, hFS, htd, hlt, (show rgI (F_24 4) 0 1000000 120 from (by assumption)), rgS, rgY, (show 0 ≤ (I_22 2) ∧ (I_22 2) ≤ 65535 from (by omega)), hit, hmmk, heq, htq, hrel⟩) rtr_10 hP hD hS (lv_sub hl [0, 1, 2, 3] rfl)
