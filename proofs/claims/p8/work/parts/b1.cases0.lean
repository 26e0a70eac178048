set_option maxHeartbeats 40000000 in
set_option maxRecDepth 100000 in
theorem law_c0 {p : Program} {e : Env} {s : State} {m : MethodId} {below : List Frame} {meth : Method} {c : Code} (l : Launch) {b L : Nat} {xs : Nat → Int32} {A : Nat → Prop} {D : va_G} {k : Nat → ClassId} {sa sv : Nat} {i : Int} (C : LFX p s m meth c b L xs A D k sa sv) (hi : 0 ≤ i ∧ i + 6 ≤ (L : Int)) (hk : LAT p l e s m below meth c b A D k 2846 i) : LAT p l e s m below meth c b A D k 344 i := by
  obtain ⟨hx, hb, hr, hml, hown, hts, hKK, hX, hbl, hbA, hA, hAf, hlocks, hSY, hRR, hL⟩ := id C
  intro a IA LA FA QA VA IB LB FB QB VB IC LC FC QC VC ID LD FD QD VD IR LR FR QR VR r H locs ls hI hRT hP hD hS hl
  have hK := hKK.1
  obtain ⟨hP, hD⟩ : PD D A ((GA k a IA LA FA QA VA r) ++ ((GB k a IB LB FB QB VB r) ++ ((GC k a IC LC FC QC VC r) ++ ((GD k a ID LD FD QD VD r) ++ ((GR k a IR LR FR QR VR r) ++ (r.tl)))))) H := ⟨hP, hD⟩
  obtain ⟨hWI, hWI_0, hWI_1, hWI_2, hrd, htr0, htr1, htr2, htr3, hrgk, hrgt, hdrc, hev, hmk, hM, hMK, hTI, hFS, htd, hlt, rgH, rgS, rgY, hdr, hit, hmmk, heq, htq, hrel⟩ := id hI
  obtain ⟨gw1, gw2, gw3, gw4, gw5, gw6, gw7, gw8, gw9, gw10, gw11⟩ := id hWI
  have hx0 := gw9
  have hYI := gw11
  obtain ⟨z1, hz1, hz1a, hz1b⟩ := i32_z (xs (iZ (i + 1)).toNatClampNeg)
  obtain ⟨z2, hz2, hz2a, hz2b⟩ := i32_z (xs (iZ (i + 2)).toNatClampNeg)
  obtain ⟨z3, hz3, hz3a, hz3b⟩ := i32_z (xs (iZ (i + 3)).toNatClampNeg)
  obtain ⟨z4, hz4, hz4a, hz4b⟩ := i32_z (xs (iZ (i + 4)).toNatClampNeg)
  obtain ⟨z5, hz5, hz5a, hz5b⟩ := i32_z (xs (iZ (i + 5)).toNatClampNeg)
  have hl : lv_has ls 4 [(3, .int (iZ i)), (2, .ref (a 106)), (1, .ref (a 0)), (0, .ref b)] := hl
  refine lv_aload_n hx hb dL_law_344 rfl (lv_at hl 2 rfl) ?_
  refine CKV2 (As := []) (rest := []) (tl := (GB k a IB LB FB QB VB r) ++ ((GC k a IC LC FC QC VC r) ++ ((GD k a ID LD FD QD VD r) ++ ((GR k a IR LR FR QR VR r) ++ (r.tl))))) hx hb hml hown hts hKK hP hD hS hA (k_status l D k (a 0) (a 1) (a 2) (a 3) (a 4) (a 5) (a 6) (a 7) (a 8) (a 9) (a 10) (a 11) (IA 0) (IA 1) (IA 2) (LA 0) (LA 1)) ci_X11_status qm_L_13 ⟨Nat.le_of_ble_eq_true rfl, Nat.le_of_ble_eq_true rfl⟩ (lroom _) [0] [1, 2, 3, 4, 5, 6, 7, 8, 9, 10, 11, 12, 13, 14, 15, 16, 17, 18, 19, 20, 21, 22, 23, 24, 25] rfl rfl rfl (by decide +kernel) (by decide +kernel) (by decide +kernel) 0 rfl rfl rfl hl.1 rfl (Nat.le_of_ble_eq_true rfl) dL_law_345 (fun u_1 H locs hφ hP hD hS => ?_)
  obtain ⟨I_2, L_3, F_4, G_5⟩ := u_1
  obtain ⟨hP, hD⟩ := PD.by2 (is := [25, 0, 1, 2, 3, 4, 5, 6, 7, 8, 9, 10, 11, 12, 13, 14, 15, 16, 17, 18, 19, 20, 21, 22, 23, 24]) (y := (GA k a IA LA FA QA VA r)) ⟨hP, hD⟩ (by decide +kernel) rfl
  refine W.eq (g2 := F0 m 348 ls [.int (iZ (IA 2))]) rfl ?_
  refine lv_pop hx hb dL_law_348 rfl ?_
  refine lv_aload_n hx hb dL_law_349 rfl (lv_at hl 1 rfl) ?_
  obtain ⟨hP, hD⟩ := PD.fr5 ⟨hP, hD⟩
  refine CKV2 (As := []) (rest := []) (tl := (GA k a IA LA FA QA VA r) ++ ((GB k a IB LB FB QB VB r) ++ ((GC k a IC LC FC QC VC r) ++ ((GD k a ID LD FD QD VD r) ++ (r.tl))))) hx hb hml hown hts hKK hP hD hS hA (m_status l D k (a 106) (a 107) (a 108) (a 109) (a 110) (a 111) (a 112) (a 113) (a 114) (a 115) (a 116) (a 117) (a 118) (a 119) (a 120) (a 121) (a 122) (IR 0) (IR 1) (IR 2) (IR 3) (IR 4) (IR 5) (IR 6) (IR 7) (IR 8) (IR 9) (IR 10) (IR 11) (IR 12) (IR 13) (IR 14) (IR 15) (IR 16) (IR 17) (LR 0) (LR 1)) ci_X12_status qm_L_17 ⟨Nat.le_of_ble_eq_true rfl, Nat.le_of_ble_eq_true rfl⟩ (lroom _) [0] [1, 2, 3, 4, 5, 6, 7, 8, 9, 10, 11, 12, 13, 14, 15, 16] rfl rfl rfl (by decide +kernel) (by decide +kernel) (by decide +kernel) 0 rfl rfl rfl hl.1 rfl (Nat.le_of_ble_eq_true rfl) dL_law_350 (fun u_7 H locs hφ hP hD hS => ?_)
  obtain ⟨I_8, L_9, F_10, G_11⟩ := u_7
  obtain ⟨hP, hD⟩ := PD.by2 (is := [16, 0, 1, 2, 3, 4, 5, 6, 7, 8, 9, 10, 11, 12, 13, 14, 15]) (y := (GR k a IR LR FR QR VR r)) ⟨hP, hD⟩ (by decide +kernel) rfl
  refine W.eq (g2 := F0 m 353 ls [.int (iZ (IR 0))]) rfl ?_
  refine lv_pop hx hb dL_law_353 rfl ?_
  refine lv_goto (tgt := 2846) hx hb dL_law_354 (by decide) ?_
  obtain ⟨hP, hD⟩ := PD.fr5 ⟨hP, hD⟩
  obtain ⟨hP, hD⟩ := PD.fr5 ⟨hP, hD⟩
  obtain ⟨hP, hD⟩ := PD.fr5 ⟨hP, hD⟩
  obtain ⟨hP, hD⟩ := PD.fr5 ⟨hP, hD⟩
  exact hk a IA LA FA QA VA IB LB FB QB VB IC LC FC QC VC ID LD FD QD VD IR LR FR QR VR r H locs ls (show INV _ _ _ _ _ _ _ _ _ _ from ⟨hWI, hWI_0, hWI_1, hWI_2, hrd, htr0, htr1, htr2, htr3, hrgk, hrgt, hdrc, hev, hmk, hM, hMK, hTI, hFS, htd, hlt, rgH, rgS, rgY, hdr, hit, hmmk, heq, htq, hrel⟩) hRT hP hD hS (lv_sub hl [0, 1, 2, 3] rfl)
set_option maxHeartbeats 40000000 in
set_option maxRecDepth 100000 in
theorem law_c1 {p : Program} {e : Env} {s : State} {m : MethodId} {below : List Frame} {meth : Method} {c : Code} (l : Launch) {b L : Nat} {xs : Nat → Int32} {A : Nat → Prop} {D : va_G} {k : Nat → ClassId} {sa sv : Nat} {i : Int} (C : LFX p s m meth c b L xs A D k sa sv) (hi : 0 ≤ i ∧ i + 6 ≤ (L : Int)) (hk : LAT p l e s m below meth c b A D k 2846 i) : LAT p l e s m below meth c b A D k 357 i := by
  obtain ⟨hx, hb, hr, hml, hown, hts, hKK, hX, hbl, hbA, hA, hAf, hlocks, hSY, hRR, hL⟩ := id C
  intro a IA LA FA QA VA IB LB FB QB VB IC LC FC QC VC ID LD FD QD VD IR LR FR QR VR r H locs ls hI hRT hP hD hS hl
  have hK := hKK.1
  obtain ⟨hP, hD⟩ : PD D A ((GA k a IA LA FA QA VA r) ++ ((GB k a IB LB FB QB VB r) ++ ((GC k a IC LC FC QC VC r) ++ ((GD k a ID LD FD QD VD r) ++ ((GR k a IR LR FR QR VR r) ++ (r.tl)))))) H := ⟨hP, hD⟩
  obtain ⟨hWI, hWI_0, hWI_1, hWI_2, hrd, htr0, htr1, htr2, htr3, hrgk, hrgt, hdrc, hev, hmk, hM, hMK, hTI, hFS, htd, hlt, rgH, rgS, rgY, hdr, hit, hmmk, heq, htq, hrel⟩ := id hI
  obtain ⟨gw1, gw2, gw3, gw4, gw5, gw6, gw7, gw8, gw9, gw10, gw11⟩ := id hWI
  have hx0 := gw9
  have hYI := gw11
  obtain ⟨z1, hz1, hz1a, hz1b⟩ := i32_z (xs (iZ (i + 1)).toNatClampNeg)
  obtain ⟨z2, hz2, hz2a, hz2b⟩ := i32_z (xs (iZ (i + 2)).toNatClampNeg)
  obtain ⟨z3, hz3, hz3a, hz3b⟩ := i32_z (xs (iZ (i + 3)).toNatClampNeg)
  obtain ⟨z4, hz4, hz4a, hz4b⟩ := i32_z (xs (iZ (i + 4)).toNatClampNeg)
  obtain ⟨z5, hz5, hz5a, hz5b⟩ := i32_z (xs (iZ (i + 5)).toNatClampNeg)
  have hl : lv_has ls 4 [(3, .int (iZ i)), (2, .ref (a 106)), (1, .ref (a 0)), (0, .ref b)] := hl
  refine lv_aload_n hx hb dL_law_357 rfl (lv_at hl 2 rfl) ?_
  refine CKV2 (As := []) (rest := []) (tl := (GB k a IB LB FB QB VB r) ++ ((GC k a IC LC FC QC VC r) ++ ((GD k a ID LD FD QD VD r) ++ ((GR k a IR LR FR QR VR r) ++ (r.tl))))) hx hb hml hown hts hKK hP hD hS hA (k_top l D k (a 0) (a 1) (a 2) (a 3) (a 4) (a 5) (a 6) (a 7) (a 8) (a 9) (a 10) (a 11) (IA 0) (IA 1) (IA 2) (LA 0) (LA 1)) ci_X11_top qm_L_18 ⟨Nat.le_of_ble_eq_true rfl, Nat.le_of_ble_eq_true rfl⟩ (lroom _) [0] [1, 2, 3, 4, 5, 6, 7, 8, 9, 10, 11, 12, 13, 14, 15, 16, 17, 18, 19, 20, 21, 22, 23, 24, 25] rfl rfl rfl (by decide +kernel) (by decide +kernel) (by decide +kernel) 0 rfl rfl rfl hl.1 rfl (Nat.le_of_ble_eq_true rfl) dL_law_358 (fun u_1 H locs hφ hP hD hS => ?_)
  obtain ⟨I_2, L_3, F_4, G_5⟩ := u_1
  obtain ⟨hP, hD⟩ := PD.by2 (is := [25, 0, 1, 2, 3, 4, 5, 6, 7, 8, 9, 10, 11, 12, 13, 14, 15, 16, 17, 18, 19, 20, 21, 22, 23, 24]) (y := (GA k a IA LA FA QA VA r)) ⟨hP, hD⟩ (by decide +kernel) rfl
  refine W.eq (g2 := F0 m 361 ls [.long (L_3 0)]) rfl ?_
  refine lv_pop2_2 hx hb dL_law_361 rfl ?_
  refine lv_aload_n hx hb dL_law_362 rfl (lv_at hl 1 rfl) ?_
  obtain ⟨hP, hD⟩ := PD.fr5 ⟨hP, hD⟩
  refine CKV2 (As := []) (rest := []) (tl := (GA k a IA LA FA QA VA r) ++ ((GB k a IB LB FB QB VB r) ++ ((GC k a IC LC FC QC VC r) ++ ((GD k a ID LD FD QD VD r) ++ (r.tl))))) hx hb hml hown hts hKK hP hD hS hA (m_top l D k (a 106) (a 107) (a 108) (a 109) (a 110) (a 111) (a 112) (a 113) (a 114) (a 115) (a 116) (a 117) (a 118) (a 119) (a 120) (a 121) (a 122) (IR 0) (IR 1) (IR 2) (IR 3) (IR 4) (IR 5) (IR 6) (IR 7) (IR 8) (IR 9) (IR 10) (IR 11) (IR 12) (IR 13) (IR 14) (IR 15) (IR 16) (IR 17) (LR 0) (LR 1)) ci_X12_top qm_L_22 ⟨Nat.le_of_ble_eq_true rfl, Nat.le_of_ble_eq_true rfl⟩ (lroom _) [0] [1, 2, 3, 4, 5, 6, 7, 8, 9, 10, 11, 12, 13, 14, 15, 16] rfl rfl rfl (by decide +kernel) (by decide +kernel) (by decide +kernel) 0 rfl rfl rfl hl.1 rfl (Nat.le_of_ble_eq_true rfl) dL_law_363 (fun u_7 H locs hφ hP hD hS => ?_)
  obtain ⟨I_8, L_9, F_10, G_11⟩ := u_7
  obtain ⟨hP, hD⟩ := PD.by2 (is := [16, 0, 1, 2, 3, 4, 5, 6, 7, 8, 9, 10, 11, 12, 13, 14, 15]) (y := (GR k a IR LR FR QR VR r)) ⟨hP, hD⟩ (by decide +kernel) rfl
  refine W.eq (g2 := F0 m 366 ls [.long (L_9 0)]) rfl ?_
  refine lv_pop2_2 hx hb dL_law_366 rfl ?_
  refine lv_goto (tgt := 2846) hx hb dL_law_367 (by decide) ?_
  obtain ⟨hP, hD⟩ := PD.fr5 ⟨hP, hD⟩
  obtain ⟨hP, hD⟩ := PD.fr5 ⟨hP, hD⟩
  obtain ⟨hP, hD⟩ := PD.fr5 ⟨hP, hD⟩
  obtain ⟨hP, hD⟩ := PD.fr5 ⟨hP, hD⟩
  exact hk a IA LA FA QA VA IB LB FB QB VB IC LC FC QC VC ID LD FD QD VD IR LR FR QR VR r H locs ls (show INV _ _ _ _ _ _ _ _ _ _ from ⟨hWI, hWI_0, hWI_1, hWI_2, hrd, htr0, htr1, htr2, htr3, hrgk, hrgt, hdrc, hev, hmk, hM, hMK, hTI, hFS, htd, hlt, rgH, rgS, rgY, hdr, hit, hmmk, heq, htq, hrel⟩) hRT hP hD hS (lv_sub hl [0, 1, 2, 3] rfl)
set_option maxHeartbeats 40000000 in
set_option maxRecDepth 100000 in
theorem law_c2 {p : Program} {e : Env} {s : State} {m : MethodId} {below : List Frame} {meth : Method} {c : Code} (l : Launch) {b L : Nat} {xs : Nat → Int32} {A : Nat → Prop} {D : va_G} {k : Nat → ClassId} {sa sv : Nat} {i : Int} (C : LFX p s m meth c b L xs A D k sa sv) (hi : 0 ≤ i ∧ i + 6 ≤ (L : Int)) (hk : LAT p l e s m below meth c b A D k 2846 i) : LAT p l e s m below meth c b A D k 370 i := by
  obtain ⟨hx, hb, hr, hml, hown, hts, hKK, hX, hbl, hbA, hA, hAf, hlocks, hSY, hRR, hL⟩ := id C
  intro a IA LA FA QA VA IB LB FB QB VB IC LC FC QC VC ID LD FD QD VD IR LR FR QR VR r H locs ls hI hRT hP hD hS hl
  have hK := hKK.1
  obtain ⟨hP, hD⟩ : PD D A ((GA k a IA LA FA QA VA r) ++ ((GB k a IB LB FB QB VB r) ++ ((GC k a IC LC FC QC VC r) ++ ((GD k a ID LD FD QD VD r) ++ ((GR k a IR LR FR QR VR r) ++ (r.tl)))))) H := ⟨hP, hD⟩
  obtain ⟨hWI, hWI_0, hWI_1, hWI_2, hrd, htr0, htr1, htr2, htr3, hrgk, hrgt, hdrc, hev, hmk, hM, hMK, hTI, hFS, htd, hlt, rgH, rgS, rgY, hdr, hit, hmmk, heq, htq, hrel⟩ := id hI
  obtain ⟨gw1, gw2, gw3, gw4, gw5, gw6, gw7, gw8, gw9, gw10, gw11⟩ := id hWI
  have hx0 := gw9
  have hYI := gw11
  obtain ⟨z1, hz1, hz1a, hz1b⟩ := i32_z (xs (iZ (i + 1)).toNatClampNeg)
  obtain ⟨z2, hz2, hz2a, hz2b⟩ := i32_z (xs (iZ (i + 2)).toNatClampNeg)
  obtain ⟨z3, hz3, hz3a, hz3b⟩ := i32_z (xs (iZ (i + 3)).toNatClampNeg)
  obtain ⟨z4, hz4, hz4a, hz4b⟩ := i32_z (xs (iZ (i + 4)).toNatClampNeg)
  obtain ⟨z5, hz5, hz5a, hz5b⟩ := i32_z (xs (iZ (i + 5)).toNatClampNeg)
  have hl : lv_has ls 4 [(3, .int (iZ i)), (2, .ref (a 106)), (1, .ref (a 0)), (0, .ref b)] := hl
  refine lv_aload_n hx hb dL_law_370 rfl (lv_at hl 2 rfl) ?_
  refine CKV2 (As := []) (rest := []) (tl := (GB k a IB LB FB QB VB r) ++ ((GC k a IC LC FC QC VC r) ++ ((GD k a ID LD FD QD VD r) ++ ((GR k a IR LR FR QR VR r) ++ (r.tl))))) hx hb hml hown hts hKK hP hD hS hA (k_bottom l D k (a 0) (a 1) (a 2) (a 3) (a 4) (a 5) (a 6) (a 7) (a 8) (a 9) (a 10) (a 11) (IA 0) (IA 1) (IA 2) (LA 0) (LA 1)) ci_X11_bottom qm_L_23 ⟨Nat.le_of_ble_eq_true rfl, Nat.le_of_ble_eq_true rfl⟩ (lroom _) [0] [1, 2, 3, 4, 5, 6, 7, 8, 9, 10, 11, 12, 13, 14, 15, 16, 17, 18, 19, 20, 21, 22, 23, 24, 25] rfl rfl rfl (by decide +kernel) (by decide +kernel) (by decide +kernel) 0 rfl rfl rfl hl.1 rfl (Nat.le_of_ble_eq_true rfl) dL_law_371 (fun u_1 H locs hφ hP hD hS => ?_)
  obtain ⟨I_2, L_3, F_4, G_5⟩ := u_1
  obtain ⟨hP, hD⟩ := PD.by2 (is := [25, 0, 1, 2, 3, 4, 5, 6, 7, 8, 9, 10, 11, 12, 13, 14, 15, 16, 17, 18, 19, 20, 21, 22, 23, 24]) (y := (GA k a IA LA FA QA VA r)) ⟨hP, hD⟩ (by decide +kernel) rfl
  refine W.eq (g2 := F0 m 374 ls [.long (L_3 0)]) rfl ?_
  refine lv_pop2_2 hx hb dL_law_374 rfl ?_
  refine lv_aload_n hx hb dL_law_375 rfl (lv_at hl 1 rfl) ?_
  obtain ⟨hP, hD⟩ := PD.fr5 ⟨hP, hD⟩
  refine CKV2 (As := []) (rest := []) (tl := (GA k a IA LA FA QA VA r) ++ ((GB k a IB LB FB QB VB r) ++ ((GC k a IC LC FC QC VC r) ++ ((GD k a ID LD FD QD VD r) ++ (r.tl))))) hx hb hml hown hts hKK hP hD hS hA (m_bottom l D k (a 106) (a 107) (a 108) (a 109) (a 110) (a 111) (a 112) (a 113) (a 114) (a 115) (a 116) (a 117) (a 118) (a 119) (a 120) (a 121) (a 122) (IR 0) (IR 1) (IR 2) (IR 3) (IR 4) (IR 5) (IR 6) (IR 7) (IR 8) (IR 9) (IR 10) (IR 11) (IR 12) (IR 13) (IR 14) (IR 15) (IR 16) (IR 17) (LR 0) (LR 1)) ci_X12_bottom qm_L_26 ⟨Nat.le_of_ble_eq_true rfl, Nat.le_of_ble_eq_true rfl⟩ (lroom _) [0] [1, 2, 3, 4, 5, 6, 7, 8, 9, 10, 11, 12, 13, 14, 15, 16] rfl rfl rfl (by decide +kernel) (by decide +kernel) (by decide +kernel) 0 rfl rfl rfl hl.1 rfl (Nat.le_of_ble_eq_true rfl) dL_law_376 (fun u_7 H locs hφ hP hD hS => ?_)
  obtain ⟨I_8, L_9, F_10, G_11⟩ := u_7
  obtain ⟨hP, hD⟩ := PD.by2 (is := [16, 0, 1, 2, 3, 4, 5, 6, 7, 8, 9, 10, 11, 12, 13, 14, 15]) (y := (GR k a IR LR FR QR VR r)) ⟨hP, hD⟩ (by decide +kernel) rfl
  refine W.eq (g2 := F0 m 379 ls [.long (L_9 0)]) rfl ?_
  refine lv_pop2_2 hx hb dL_law_379 rfl ?_
  refine lv_goto (tgt := 2846) hx hb dL_law_380 (by decide) ?_
  obtain ⟨hP, hD⟩ := PD.fr5 ⟨hP, hD⟩
  obtain ⟨hP, hD⟩ := PD.fr5 ⟨hP, hD⟩
  obtain ⟨hP, hD⟩ := PD.fr5 ⟨hP, hD⟩
  obtain ⟨hP, hD⟩ := PD.fr5 ⟨hP, hD⟩
  exact hk a IA LA FA QA VA IB LB FB QB VB IC LC FC QC VC ID LD FD QD VD IR LR FR QR VR r H locs ls (show INV _ _ _ _ _ _ _ _ _ _ from ⟨hWI, hWI_0, hWI_1, hWI_2, hrd, htr0, htr1, htr2, htr3, hrgk, hrgt, hdrc, hev, hmk, hM, hMK, hTI, hFS, htd, hlt, rgH, rgS, rgY, hdr, hit, hmmk, heq, htq, hrel⟩) hRT hP hD hS (lv_sub hl [0, 1, 2, 3] rfl)
set_option maxHeartbeats 40000000 in
set_option maxRecDepth 100000 in
theorem law_c3 {p : Program} {e : Env} {s : State} {m : MethodId} {below : List Frame} {meth : Method} {c : Code} (l : Launch) {b L : Nat} {xs : Nat → Int32} {A : Nat → Prop} {D : va_G} {k : Nat → ClassId} {sa sv : Nat} {i : Int} (C : LFX p s m meth c b L xs A D k sa sv) (hi : 0 ≤ i ∧ i + 6 ≤ (L : Int)) (hk : LAT p l e s m below meth c b A D k 2846 i) : LAT p l e s m below meth c b A D k 383 i := by
  obtain ⟨hx, hb, hr, hml, hown, hts, hKK, hX, hbl, hbA, hA, hAf, hlocks, hSY, hRR, hL⟩ := id C
  intro a IA LA FA QA VA IB LB FB QB VB IC LC FC QC VC ID LD FD QD VD IR LR FR QR VR r H locs ls hI hRT hP hD hS hl
  have hK := hKK.1
  obtain ⟨hP, hD⟩ : PD D A ((GA k a IA LA FA QA VA r) ++ ((GB k a IB LB FB QB VB r) ++ ((GC k a IC LC FC QC VC r) ++ ((GD k a ID LD FD QD VD r) ++ ((GR k a IR LR FR QR VR r) ++ (r.tl)))))) H := ⟨hP, hD⟩
  obtain ⟨hWI, hWI_0, hWI_1, hWI_2, hrd, htr0, htr1, htr2, htr3, hrgk, hrgt, hdrc, hev, hmk, hM, hMK, hTI, hFS, htd, hlt, rgH, rgS, rgY, hdr, hit, hmmk, heq, htq, hrel⟩ := id hI
  obtain ⟨gw1, gw2, gw3, gw4, gw5, gw6, gw7, gw8, gw9, gw10, gw11⟩ := id hWI
  have hx0 := gw9
  have hYI := gw11
  obtain ⟨z1, hz1, hz1a, hz1b⟩ := i32_z (xs (iZ (i + 1)).toNatClampNeg)
  obtain ⟨z2, hz2, hz2a, hz2b⟩ := i32_z (xs (iZ (i + 2)).toNatClampNeg)
  obtain ⟨z3, hz3, hz3a, hz3b⟩ := i32_z (xs (iZ (i + 3)).toNatClampNeg)
  obtain ⟨z4, hz4, hz4a, hz4b⟩ := i32_z (xs (iZ (i + 4)).toNatClampNeg)
  obtain ⟨z5, hz5, hz5a, hz5b⟩ := i32_z (xs (iZ (i + 5)).toNatClampNeg)
  have hl : lv_has ls 4 [(3, .int (iZ i)), (2, .ref (a 106)), (1, .ref (a 0)), (0, .ref b)] := hl
  refine lv_aload_n hx hb dL_law_383 rfl (lv_at hl 2 rfl) ?_
  refine lv_aload_n hx hb dL_law_384 rfl (lv_at hl 3 rfl) ?_
  refine lv_iload_n hx hb dL_law_385 rfl (lv_at hl 0 rfl) ?_
  refine lv_iconst (v := iZ 1) hx hb dL_law_386 (by decide) ?_
  refine lv_iadd hx hb dL_law_387 ?_
  refine lv_topi (fun x_1 ex_1 => ?_)
  obtain rfl : x_1 = iZ (i + 1) := ex_1.trans (iZ_add i 1)
  refine va_sld hx hb hX hbl hbA hS (zin (e := (i + 1)) (n := L) ⟨by omega, by omega⟩ (by omega)) dL_law_388 ?_
  refine lv_topi (fun x_2 ex_2 => ?_)
  obtain rfl : x_2 = iZ z1 := ex_2.trans hz1
  refine lv_aload_n hx hb dL_law_389 rfl (lv_at hl 3 rfl) ?_
  refine lv_iload_n hx hb dL_law_390 rfl (lv_at hl 0 rfl) ?_
  refine lv_iconst (v := iZ 2) hx hb dL_law_391 (by decide) ?_
  refine lv_iadd hx hb dL_law_392 ?_
  refine lv_topi (fun x_3 ex_3 => ?_)
  obtain rfl : x_3 = iZ (i + 2) := ex_3.trans (iZ_add i 2)
  refine va_sld hx hb hX hbl hbA hS (zin (e := (i + 2)) (n := L) ⟨by omega, by omega⟩ (by omega)) dL_law_393 ?_
  refine lv_topi (fun x_4 ex_4 => ?_)
  obtain rfl : x_4 = iZ z2 := ex_4.trans hz2
  refine lv_aload_n hx hb dL_law_394 rfl (lv_at hl 3 rfl) ?_
  refine lv_iload_n hx hb dL_law_395 rfl (lv_at hl 0 rfl) ?_
  refine lv_iconst (v := iZ 3) hx hb dL_law_396 (by decide) ?_
  refine lv_iadd hx hb dL_law_397 ?_
  refine lv_topi (fun x_5 ex_5 => ?_)
  obtain rfl : x_5 = iZ (i + 3) := ex_5.trans (iZ_add i 3)
  refine va_sld hx hb hX hbl hbA hS (zin (e := (i + 3)) (n := L) ⟨by omega, by omega⟩ (by omega)) dL_law_398 ?_
  refine lv_topi (fun x_6 ex_6 => ?_)
  obtain rfl : x_6 = iZ z3 := ex_6.trans hz3
  obtain ⟨hP, hD⟩ := PD.swap ⟨hP, hD⟩
  obtain ⟨hP, hD⟩ := PD.swap ⟨hP, hD⟩
  obtain ⟨hP, hD⟩ := PD.sa2 ⟨hP, hD⟩
  refine CKV2 (As := [.int (iZ z1), .int (iZ z2), .int (iZ z3)]) (rest := []) (tl := (GC k a IC LC FC QC VC r) ++ ((GD k a ID LD FD QD VD r) ++ ((GR k a IR LR FR QR VR r) ++ (r.tl)))) hx hb hml hown hts hKK hP hD hS hA (p_tray l D k (a 0) (a 1) (a 2) (a 3) (a 4) (a 5) (a 6) (a 7) (a 8) (a 9) (a 10) (a 11) (IA 0) (IA 1) (IA 2) (LA 0) (LA 1) (fun i => some (a (12 + i))) (a 12) (a 13) (a 14) (a 15) (a 19) (a 20) (a 21) (a 22) (IB 0) (IB 2) (IB 4) (IB 6) (IB 1) (IB 3) (IB 5) (IB 7) (QB 0) (QB 1) (QB 2) (QB 3) z1 z2 z3 rfl rfl rfl rfl ⟨⟨by omega, by omega⟩, ⟨by omega, by omega⟩⟩ ⟨⟨by omega, by omega⟩, ⟨by omega, by omega⟩⟩ ⟨⟨by omega, by omega⟩, ⟨by omega, by omega⟩⟩ ⟨⟨by omega, by omega⟩, ⟨by omega, by omega⟩⟩ ⟨by omega, by omega⟩ ⟨by omega, by omega⟩ ⟨by omega, by omega⟩) ci_X11_tray qm_L_27 ⟨Nat.le_of_ble_eq_true rfl, Nat.le_of_ble_eq_true rfl⟩ (lroom _) [0, 26, 27, 28, 29, 30, 31, 32, 33, 34] [1, 2, 3, 4, 5, 6, 7, 8, 9, 10, 11, 12, 13, 14, 15, 16, 17, 18, 19, 20, 21, 22, 23, 24, 25] rfl rfl rfl (by decide +kernel) (by decide +kernel) (by decide +kernel) 0 rfl rfl rfl hl.1 rfl (Nat.le_of_ble_eq_true rfl) dL_law_399 (fun u_7 H locs hφ hP hD hS => ?_)
  obtain ⟨I_8, L_9, F_10, G_11⟩ := u_7
  obtain ⟨p_13, p_14, p_15, p_16, p_17, p_18, p_19, p_20, p_21⟩ : ((0 ≤ (I_8 2) ∧ (I_8 2) ≤ 3) ∧ (-1 ≤ (I_8 6) ∧ (I_8 6) ≤ 60)) ∧ ((0 ≤ (I_8 3) ∧ (I_8 3) ≤ 3) ∧ (-1 ≤ (I_8 7) ∧ (I_8 7) ≤ 60)) ∧ ((0 ≤ (I_8 4) ∧ (I_8 4) ≤ 3) ∧ (-1 ≤ (I_8 8) ∧ (I_8 8) ≤ 60)) ∧ ((0 ≤ (I_8 5) ∧ (I_8 5) ≤ 3) ∧ (-1 ≤ (I_8 9) ∧ (I_8 9) ≤ 60)) ∧ ((((I_8 0) : Int) = 1 ∧ ((0 ≤ (z1 : Int) ∧ (z1 : Int) ≤ 3) ∧ (0 ≤ z2 ∧ z2 ≤ 3) ∧ (0 ≤ z3 ∧ z3 ≤ 60))) ∨ (((I_8 0) : Int) = 0 ∧ ¬ ((0 ≤ (z1 : Int) ∧ (z1 : Int) ≤ 3) ∧ (0 ≤ z2 ∧ z2 ≤ 3) ∧ (0 ≤ z3 ∧ z3 ≤ 60)))) ∧ ((((z1 : Int) = 0 ∧ ((0 ≤ (z1 : Int) ∧ (z1 : Int) ≤ 3) ∧ (0 ≤ z2 ∧ z2 ≤ 3) ∧ (0 ≤ z3 ∧ z3 ≤ 60))) ∧ (I_8 2) = z2 ∧ (I_8 6) = z3) ∨ (¬ ((z1 : Int) = 0 ∧ ((0 ≤ (z1 : Int) ∧ (z1 : Int) ≤ 3) ∧ (0 ≤ z2 ∧ z2 ≤ 3) ∧ (0 ≤ z3 ∧ z3 ≤ 60))) ∧ (I_8 2) = (IB 0) ∧ (I_8 6) = (IB 1))) ∧ ((((z1 : Int) = 1 ∧ ((0 ≤ (z1 : Int) ∧ (z1 : Int) ≤ 3) ∧ (0 ≤ z2 ∧ z2 ≤ 3) ∧ (0 ≤ z3 ∧ z3 ≤ 60))) ∧ (I_8 3) = z2 ∧ (I_8 7) = z3) ∨ (¬ ((z1 : Int) = 1 ∧ ((0 ≤ (z1 : Int) ∧ (z1 : Int) ≤ 3) ∧ (0 ≤ z2 ∧ z2 ≤ 3) ∧ (0 ≤ z3 ∧ z3 ≤ 60))) ∧ (I_8 3) = (IB 2) ∧ (I_8 7) = (IB 3))) ∧ ((((z1 : Int) = 2 ∧ ((0 ≤ (z1 : Int) ∧ (z1 : Int) ≤ 3) ∧ (0 ≤ z2 ∧ z2 ≤ 3) ∧ (0 ≤ z3 ∧ z3 ≤ 60))) ∧ (I_8 4) = z2 ∧ (I_8 8) = z3) ∨ (¬ ((z1 : Int) = 2 ∧ ((0 ≤ (z1 : Int) ∧ (z1 : Int) ≤ 3) ∧ (0 ≤ z2 ∧ z2 ≤ 3) ∧ (0 ≤ z3 ∧ z3 ≤ 60))) ∧ (I_8 4) = (IB 4) ∧ (I_8 8) = (IB 5))) ∧ ((((z1 : Int) = 3 ∧ ((0 ≤ (z1 : Int) ∧ (z1 : Int) ≤ 3) ∧ (0 ≤ z2 ∧ z2 ≤ 3) ∧ (0 ≤ z3 ∧ z3 ≤ 60))) ∧ (I_8 5) = z2 ∧ (I_8 9) = z3) ∨ (¬ ((z1 : Int) = 3 ∧ ((0 ≤ (z1 : Int) ∧ (z1 : Int) ≤ 3) ∧ (0 ≤ z2 ∧ z2 ≤ 3) ∧ (0 ≤ z3 ∧ z3 ≤ 60))) ∧ (I_8 5) = (IB 6) ∧ (I_8 9) = (IB 7))) := hφ
  obtain ⟨hP, hD⟩ := PD.by2 (is := [25, 0, 1, 2, 3, 4, 5, 6, 7, 8, 9, 10, 11, 12, 13, 14, 15, 16, 17, 18, 19, 20, 21, 22, 23, 24, 26, 27, 28, 29, 30, 31, 32, 33, 34]) (y := (GA k a (fun i => [(IA 0), (IA 1), (I_8 1), (IA 3), (IA 4), (IA 5), (IA 6), (IA 7), (IA 8), (IA 9), (IA 10), (IA 11), (IA 12), (IA 13), (IA 14), (IA 15), (IA 16), (IA 17), (IA 18)].getD i 0) LA FA QA VA r) ++ ((GB k a (fun i => [(I_8 2), (I_8 6), (I_8 3), (I_8 7), (I_8 4), (I_8 8), (I_8 5), (I_8 9)].getD i 0) LB FB (fun i => [(G_11 0), (G_11 1), (G_11 2), (G_11 3)].getD i (fun _ => 0)) VB r))) ⟨hP, hD⟩ (by decide +kernel) rfl
  obtain ⟨hP, hD⟩ := PD.as2 ⟨hP, hD⟩
  refine W.eq (g2 := F0 m 402 ls [.int (iZ (I_8 0))]) rfl ?_
  replace p_18 : Unit → _ := fun _ => p_18
  replace p_19 : Unit → _ := fun _ => p_19
  replace p_20 : Unit → _ := fun _ => p_20
  replace p_21 : Unit → _ := fun _ => p_21
  refine lv_pop hx hb dL_law_402 rfl ?_
  refine lv_aload_n hx hb dL_law_403 rfl (lv_at hl 1 rfl) ?_
  refine lv_aload_n hx hb dL_law_404 rfl (lv_at hl 3 rfl) ?_
  refine lv_iload_n hx hb dL_law_405 rfl (lv_at hl 0 rfl) ?_
  refine lv_iconst (v := iZ 1) hx hb dL_law_406 (by decide) ?_
  refine lv_iadd hx hb dL_law_407 ?_
  refine lv_topi (fun x_22 ex_22 => ?_)
  obtain rfl : x_22 = iZ (i + 1) := ex_22.trans (iZ_add i 1)
  refine va_sld hx hb hX hbl hbA hS (zin (e := (i + 1)) (n := L) ⟨by omega, by omega⟩ (by omega)) dL_law_408 ?_
  refine lv_topi (fun x_23 ex_23 => ?_)
  obtain rfl : x_23 = iZ z1 := ex_23.trans hz1
  refine lv_aload_n hx hb dL_law_409 rfl (lv_at hl 3 rfl) ?_
  refine lv_iload_n hx hb dL_law_410 rfl (lv_at hl 0 rfl) ?_
  refine lv_iconst (v := iZ 2) hx hb dL_law_411 (by decide) ?_
  refine lv_iadd hx hb dL_law_412 ?_
  refine lv_topi (fun x_24 ex_24 => ?_)
  obtain rfl : x_24 = iZ (i + 2) := ex_24.trans (iZ_add i 2)
  refine va_sld hx hb hX hbl hbA hS (zin (e := (i + 2)) (n := L) ⟨by omega, by omega⟩ (by omega)) dL_law_413 ?_
  refine lv_topi (fun x_25 ex_25 => ?_)
  obtain rfl : x_25 = iZ z2 := ex_25.trans hz2
  refine lv_aload_n hx hb dL_law_414 rfl (lv_at hl 3 rfl) ?_
  refine lv_iload_n hx hb dL_law_415 rfl (lv_at hl 0 rfl) ?_
  refine lv_iconst (v := iZ 3) hx hb dL_law_416 (by decide) ?_
  refine lv_iadd hx hb dL_law_417 ?_
  refine lv_topi (fun x_26 ex_26 => ?_)
  obtain rfl : x_26 = iZ (i + 3) := ex_26.trans (iZ_add i 3)
  refine va_sld hx hb hX hbl hbA hS (zin (e := (i + 3)) (n := L) ⟨by omega, by omega⟩ (by omega)) dL_law_418 ?_
  refine lv_topi (fun x_27 ex_27 => ?_)
  obtain rfl : x_27 = iZ z3 := ex_27.trans hz3
  obtain ⟨hP, hD⟩ := PD.fr5 ⟨hP, hD⟩
  refine CKV2 (As := [.int (iZ z1), .int (iZ z2), .int (iZ z3)]) (rest := []) (tl := (GA k a (fun i => [(IA 0), (IA 1), (I_8 1), (IA 3), (IA 4), (IA 5), (IA 6), (IA 7), (IA 8), (IA 9), (IA 10), (IA 11), (IA 12), (IA 13), (IA 14), (IA 15), (IA 16), (IA 17), (IA 18)].getD i 0) LA FA QA VA r) ++ ((GB k a (fun i => [(I_8 2), (I_8 6), (I_8 3), (I_8 7), (I_8 4), (I_8 8), (I_8 5), (I_8 9)].getD i 0) LB FB (fun i => [(G_11 0), (G_11 1), (G_11 2), (G_11 3)].getD i (fun _ => 0)) VB r) ++ ((GC k a IC LC FC QC VC r) ++ ((GD k a ID LD FD QD VD r) ++ (r.tl))))) hx hb hml hown hts hKK hP hD hS hA (q_tray l D k (a 106) (a 107) (a 108) (a 109) (a 110) (a 111) (a 112) (a 113) (a 114) (a 115) (a 116) (a 117) (a 118) (a 119) (a 120) (a 121) (a 122) (IR 0) (IR 1) (IR 2) (IR 3) (IR 4) (IR 5) (IR 6) (IR 7) (IR 8) (IR 9) (IR 10) (IR 11) (IR 12) (IR 13) (IR 14) (IR 15) (IR 16) (IR 17) (LR 0) (LR 1) (FR 1) (FR 2) (QR 1) z1 z2 z3 rgS rgY ⟨by omega, by omega⟩ ⟨by omega, by omega⟩ ⟨by omega, by omega⟩) ci_X12_tray qm_L_31 ⟨Nat.le_of_ble_eq_true rfl, Nat.le_of_ble_eq_true rfl⟩ (lroom _) [0, 3, 4, 5] [1, 2, 6, 7, 8, 9, 10, 11, 12, 13, 14, 15, 16] rfl rfl rfl (by decide +kernel) (by decide +kernel) (by decide +kernel) 0 rfl rfl rfl hl.1 rfl (Nat.le_of_ble_eq_true rfl) dL_law_419 (fun u_28 H locs hφ hP hD hS => ?_)
  obtain ⟨I_29, L_30, F_31, G_32⟩ := u_28
  obtain ⟨p_34, p_35, p_36, p_37⟩ : (rgI (F_31 0) 0 3 4) ∧ (rgI (F_31 1) (-1) 60 4) ∧ ((((I_29 0) : Int) = 1 ∧ ((0 ≤ z1 ∧ z1 ≤ 3) ∧ (0 ≤ z2 ∧ z2 ≤ 3) ∧ (0 ≤ z3 ∧ z3 ≤ 60))) ∨ (((I_29 0) : Int) = 0 ∧ ¬ ((0 ≤ z1 ∧ z1 ≤ 3) ∧ (0 ≤ z2 ∧ z2 ≤ 3) ∧ (0 ≤ z3 ∧ z3 ≤ 60)))) ∧ ((((0 ≤ z1 ∧ z1 ≤ 3) ∧ (0 ≤ z2 ∧ z2 ≤ 3) ∧ (0 ≤ z3 ∧ z3 ≤ 60)) ∧ (F_31 0) = upd (FR 1) (iZ z1).toNatClampNeg (iZ z2) ∧ (F_31 1) = upd (FR 2) (iZ z1).toNatClampNeg (iZ z3)) ∨ (¬ ((0 ≤ z1 ∧ z1 ≤ 3) ∧ (0 ≤ z2 ∧ z2 ≤ 3) ∧ (0 ≤ z3 ∧ z3 ≤ 60)) ∧ (F_31 0) = (FR 1) ∧ (F_31 1) = (FR 2))) := hφ
  obtain ⟨hP, hD⟩ := PD.by2 (is := [13, 0, 1, 14, 15, 16, 2, 3, 4, 5, 6, 7, 8, 9, 10, 11, 12]) (y := (GR k a (fun i => [(I_29 1), (IR 1), (IR 2), (IR 3), (IR 4), (IR 5), (IR 6), (IR 7), (IR 8), (IR 9), (IR 10), (IR 11), (IR 12), (IR 13), (IR 14), (IR 15), (IR 16), (IR 17)].getD i 0) LR (fun i => [(FR 0), (F_31 0), (F_31 1), (FR 3), (FR 4), (FR 5), (FR 6), (FR 7), (FR 8), (FR 9), (FR 10), (FR 11), (FR 12), (FR 13)].getD i (fun _ => 0)) (fun i => [(QR 0), (G_32 0)].getD i (fun _ => 0)) VR r)) ⟨hP, hD⟩ (by decide +kernel) rfl
  refine W.eq (g2 := F0 m 422 ls [.int (iZ (I_29 0))]) rfl ?_
  replace p_37 : Unit → _ := fun _ => p_37
  refine lv_pop hx hb dL_law_422 rfl ?_
  refine lv_goto (tgt := 2846) hx hb dL_law_423 (by decide) ?_
  obtain ⟨hP, hD⟩ := PD.fr5 ⟨hP, hD⟩
  obtain ⟨hP, hD⟩ := PD.fr5 ⟨hP, hD⟩
  obtain ⟨hP, hD⟩ := PD.fr5 ⟨hP, hD⟩
  obtain ⟨hP, hD⟩ := PD.fr5 ⟨hP, hD⟩
  exact hk a (fun i => [(IA 0), (IA 1), (I_8 1), (IA 3), (IA 4), (IA 5), (IA 6), (IA 7), (IA 8), (IA 9), (IA 10), (IA 11), (IA 12), (IA 13), (IA 14), (IA 15), (IA 16), (IA 17), (IA 18)].getD i 0) LA FA QA VA (fun i => [(I_8 2), (I_8 6), (I_8 3), (I_8 7), (I_8 4), (I_8 8), (I_8 5), (I_8 9)].getD i 0) LB FB (fun i => [(G_11 0), (G_11 1), (G_11 2), (G_11 3)].getD i (fun _ => 0)) VB IC LC FC QC VC ID LD FD QD VD (fun i => [(I_29 1), (IR 1), (IR 2), (IR 3), (IR 4), (IR 5), (IR 6), (IR 7), (IR 8), (IR 9), (IR 10), (IR 11), (IR 12), (IR 13), (IR 14), (IR 15), (IR 16), (IR 17)].getD i 0) LR (fun i => [(FR 0), (F_31 0), (F_31 1), (FR 3), (FR 4), (FR 5), (FR 6), (FR 7), (FR 8), (FR 9), (FR 10), (FR 11), (FR 12), (FR 13)].getD i (fun _ => 0)) (fun i => [(QR 0), (G_32 0)].getD i (fun _ => 0)) VR r H locs ls (show INV _ _ _ _ _ _ _ _ _ _ from ⟨hWI, hWI_0, hWI_1, hWI_2, hrd, (show (0 ≤ (I_8 2) ∧ (I_8 2) ≤ 3) ∧ (-1 ≤ (I_8 6) ∧ (I_8 6) ≤ 60) from (by omega)), (show (0 ≤ (I_8 3) ∧ (I_8 3) ≤ 3) ∧ (-1 ≤ (I_8 7) ∧ (I_8 7) ≤ 60) from (by omega)), (show (0 ≤ (I_8 4) ∧ (I_8 4) ≤ 3) ∧ (-1 ≤ (I_8 8) ∧ (I_8 8) ≤ 60) from (by omega)), (show (0 ≤ (I_8 5) ∧ (I_8 5) ≤ 3) ∧ (-1 ≤ (I_8 9) ∧ (I_8 9) ≤ 60) from (by omega)), hrgk, hrgt, hdrc, hev, hmk, hM, hMK, hTI, hFS, htd, hlt, rgH, (show rgI (F_31 0) 0 3 4 from (by assumption)), (show rgI (F_31 1) (-1) 60 4 from (by assumption)), hdr, hit, hmmk, heq, htq, (show ∀ t : Int, 0 ≤ t → t ≤ 3 → gz (F_31 0) t = s4 t (I_8 2) (I_8 3) (I_8 4) (I_8 5) ∧ gz (F_31 1) t = s4 t (I_8 6) (I_8 7) (I_8 8) (I_8 9) from fun t h1 h2 => by
    rcases p_37 () with ⟨k1, k2, k3⟩ | ⟨k1, k2, k3⟩
    · have u0 := fun j hj => gz_upc (j := j) k2 (by omega) (by omega) hj
      have w0 := fun j hj => gz_upc (j := j) k3 (by omega) (by omega) hj
      rcases lt4 h1 h2 with rfl | rfl | rfl | rfl
      · exact (show gz (F_31 0) 0 = (I_8 2) ∧ gz (F_31 1) 0 = (I_8 6) from tr_a (p_18 ()) k1 (u0 0 (by decide)) (w0 0 (by decide)) (show gz (FR 1) 0 = (IB 0) ∧ gz (FR 2) 0 = (IB 1) from hrel 0 (by decide) (by decide)))
      · exact (show gz (F_31 0) 1 = (I_8 3) ∧ gz (F_31 1) 1 = (I_8 7) from tr_a (p_19 ()) k1 (u0 1 (by decide)) (w0 1 (by decide)) (show gz (FR 1) 1 = (IB 2) ∧ gz (FR 2) 1 = (IB 3) from hrel 1 (by decide) (by decide)))
      · exact (show gz (F_31 0) 2 = (I_8 4) ∧ gz (F_31 1) 2 = (I_8 8) from tr_a (p_20 ()) k1 (u0 2 (by decide)) (w0 2 (by decide)) (show gz (FR 1) 2 = (IB 4) ∧ gz (FR 2) 2 = (IB 5) from hrel 2 (by decide) (by decide)))
      · exact (show gz (F_31 0) 3 = (I_8 5) ∧ gz (F_31 1) 3 = (I_8 9) from tr_a (p_21 ()) k1 (u0 3 (by decide)) (w0 3 (by decide)) (show gz (FR 1) 3 = (IB 6) ∧ gz (FR 2) 3 = (IB 7) from hrel 3 (by decide) (by decide)))
    · rw [k2, k3]
      rcases lt4 h1 h2 with rfl | rfl | rfl | rfl
      · exact (show gz (FR 1) 0 = (I_8 2) ∧ gz (FR 2) 0 = (I_8 6) from tr_b (p_18 ()) k1 (show gz (FR 1) 0 = (IB 0) ∧ gz (FR 2) 0 = (IB 1) from hrel 0 (by decide) (by decide)))
      · exact (show gz (FR 1) 1 = (I_8 3) ∧ gz (FR 2) 1 = (I_8 7) from tr_b (p_19 ()) k1 (show gz (FR 1) 1 = (IB 2) ∧ gz (FR 2) 1 = (IB 3) from hrel 1 (by decide) (by decide)))
      · exact (show gz (FR 1) 2 = (I_8 4) ∧ gz (FR 2) 2 = (I_8 8) from tr_b (p_20 ()) k1 (show gz (FR 1) 2 = (IB 4) ∧ gz (FR 2) 2 = (IB 5) from hrel 2 (by decide) (by decide)))
      · exact (show gz (FR 1) 3 = (I_8 5) ∧ gz (FR 2) 3 = (I_8 9) from tr_b (p_21 ()) k1 (show gz (FR 1) 3 = (IB 6) ∧ gz (FR 2) 3 = (IB 7) from hrel 3 (by decide) (by decide))))⟩) hRT hP hD hS (lv_sub hl [0, 1, 2, 3] rfl)
set_option maxHeartbeats 40000000 in
set_option maxRecDepth 100000 in
theorem law_c4 {p : Program} {e : Env} {s : State} {m : MethodId} {below : List Frame} {meth : Method} {c : Code} (l : Launch) {b L : Nat} {xs : Nat → Int32} {A : Nat → Prop} {D : va_G} {k : Nat → ClassId} {sa sv : Nat} {i : Int} (C : LFX p s m meth c b L xs A D k sa sv) (hi : 0 ≤ i ∧ i + 6 ≤ (L : Int)) (hk : LAT p l e s m below meth c b A D k 2846 i) : LAT p l e s m below meth c b A D k 426 i := by
  obtain ⟨hx, hb, hr, hml, hown, hts, hKK, hX, hbl, hbA, hA, hAf, hlocks, hSY, hRR, hL⟩ := id C
  intro a IA LA FA QA VA IB LB FB QB VB IC LC FC QC VC ID LD FD QD VD IR LR FR QR VR r H locs ls hI hRT hP hD hS hl
  have hK := hKK.1
  obtain ⟨hP, hD⟩ : PD D A ((GA k a IA LA FA QA VA r) ++ ((GB k a IB LB FB QB VB r) ++ ((GC k a IC LC FC QC VC r) ++ ((GD k a ID LD FD QD VD r) ++ ((GR k a IR LR FR QR VR r) ++ (r.tl)))))) H := ⟨hP, hD⟩
  obtain ⟨hWI, hWI_0, hWI_1, hWI_2, hrd, htr0, htr1, htr2, htr3, hrgk, hrgt, hdrc, hev, hmk, hM, hMK, hTI, hFS, htd, hlt, rgH, rgS, rgY, hdr, hit, hmmk, heq, htq, hrel⟩ := id hI
  obtain ⟨gw1, gw2, gw3, gw4, gw5, gw6, gw7, gw8, gw9, gw10, gw11⟩ := id hWI
  have hx0 := gw9
  have hYI := gw11
  obtain ⟨z1, hz1, hz1a, hz1b⟩ := i32_z (xs (iZ (i + 1)).toNatClampNeg)
  obtain ⟨z2, hz2, hz2a, hz2b⟩ := i32_z (xs (iZ (i + 2)).toNatClampNeg)
  obtain ⟨z3, hz3, hz3a, hz3b⟩ := i32_z (xs (iZ (i + 3)).toNatClampNeg)
  obtain ⟨z4, hz4, hz4a, hz4b⟩ := i32_z (xs (iZ (i + 4)).toNatClampNeg)
  obtain ⟨z5, hz5, hz5a, hz5b⟩ := i32_z (xs (iZ (i + 5)).toNatClampNeg)
  have hl : lv_has ls 4 [(3, .int (iZ i)), (2, .ref (a 106)), (1, .ref (a 0)), (0, .ref b)] := hl
  refine lv_aload_n hx hb dL_law_426 rfl (lv_at hl 2 rfl) ?_
  refine lv_aload_n hx hb dL_law_427 rfl (lv_at hl 3 rfl) ?_
  refine lv_iload_n hx hb dL_law_428 rfl (lv_at hl 0 rfl) ?_
  refine lv_iconst (v := iZ 1) hx hb dL_law_429 (by decide) ?_
  refine lv_iadd hx hb dL_law_430 ?_
  refine lv_topi (fun x_1 ex_1 => ?_)
  obtain rfl : x_1 = iZ (i + 1) := ex_1.trans (iZ_add i 1)
  refine va_sld hx hb hX hbl hbA hS (zin (e := (i + 1)) (n := L) ⟨by omega, by omega⟩ (by omega)) dL_law_431 ?_
  refine lv_topi (fun x_2 ex_2 => ?_)
  obtain rfl : x_2 = iZ z1 := ex_2.trans hz1
  refine lv_aload_n hx hb dL_law_432 rfl (lv_at hl 3 rfl) ?_
  refine lv_iload_n hx hb dL_law_433 rfl (lv_at hl 0 rfl) ?_
  refine lv_iconst (v := iZ 2) hx hb dL_law_434 (by decide) ?_
  refine lv_iadd hx hb dL_law_435 ?_
  refine lv_topi (fun x_3 ex_3 => ?_)
  obtain rfl : x_3 = iZ (i + 2) := ex_3.trans (iZ_add i 2)
  refine va_sld hx hb hX hbl hbA hS (zin (e := (i + 2)) (n := L) ⟨by omega, by omega⟩ (by omega)) dL_law_436 ?_
  refine lv_topi (fun x_4 ex_4 => ?_)
  obtain rfl : x_4 = iZ z2 := ex_4.trans hz2
  refine lv_aload_n hx hb dL_law_437 rfl (lv_at hl 3 rfl) ?_
  refine lv_iload_n hx hb dL_law_438 rfl (lv_at hl 0 rfl) ?_
  refine lv_iconst (v := iZ 3) hx hb dL_law_439 (by decide) ?_
  refine lv_iadd hx hb dL_law_440 ?_
  refine lv_topi (fun x_5 ex_5 => ?_)
  obtain rfl : x_5 = iZ (i + 3) := ex_5.trans (iZ_add i 3)
  refine va_sld hx hb hX hbl hbA hS (zin (e := (i + 3)) (n := L) ⟨by omega, by omega⟩ (by omega)) dL_law_441 ?_
  refine lv_topi (fun x_6 ex_6 => ?_)
  obtain rfl : x_6 = iZ z3 := ex_6.trans hz3
  refine lv_i2l (v := (iZ z3).toInt64) hx hb dL_law_442 rfl ?_
  refine lv_bipush (v := iZ 32) hx hb dL_law_443 (by decide) ?_
  refine lv_lshl (v := _) hx hb dL_law_445 rfl ?_
  refine lv_topl (fun y_7 ey_7 => ?_)
  refine lv_aload_n hx hb dL_law_446 rfl (lv_at hl 3 rfl) ?_
  refine lv_iload_n hx hb dL_law_447 rfl (lv_at hl 0 rfl) ?_
  refine lv_iconst (v := iZ 4) hx hb dL_law_448 (by decide) ?_
  refine lv_iadd hx hb dL_law_449 ?_
  refine lv_topi (fun x_8 ex_8 => ?_)
  obtain rfl : x_8 = iZ (i + 4) := ex_8.trans (iZ_add i 4)
  refine va_sld hx hb hX hbl hbA hS (zin (e := (i + 4)) (n := L) ⟨by omega, by omega⟩ (by omega)) dL_law_450 ?_
  refine lv_topi (fun x_9 ex_9 => ?_)
  obtain rfl : x_9 = iZ z4 := ex_9.trans hz4
  refine lv_i2l (v := (iZ z4).toInt64) hx hb dL_law_451 rfl ?_
  refine lv_ldc2 (own := RL) (v := 4294967295) hx hb hown (hts _ qk_L_32) dL_law_452 ?_
  refine lv_land hx hb dL_law_455 ?_
  refine lv_topl (fun y_10 ey_10 => ?_)
  refine lv_lor hx hb dL_law_456 ?_
  refine lv_topl (fun y_11 ey_11 => ?_)
  obtain ⟨hP, hD⟩ := PD.swap ⟨hP, hD⟩
  obtain ⟨hP, hD⟩ := PD.swap ⟨hP, hD⟩
  obtain ⟨hP, hD⟩ := PD.sa2 ⟨hP, hD⟩
  refine CKV2 (As := [.int (iZ z1), .int (iZ z2), .long y_11]) (rest := []) (tl := (GC k a IC LC FC QC VC r) ++ ((GD k a ID LD FD QD VD r) ++ ((GR k a IR LR FR QR VR r) ++ (r.tl)))) hx hb hml hown hts hKK hP hD hS hA (p_write l D k (a 0) (a 1) (a 2) (a 3) (a 4) (a 5) (a 6) (a 7) (a 8) (a 9) (a 10) (a 11) (IA 0) (IA 1) (IA 2) (LA 0) (LA 1) (fun i => some (a (12 + i))) (a 12) (a 13) (a 14) (a 15) (a 19) (a 20) (a 21) (a 22) (IB 0) (IB 2) (IB 4) (IB 6) (IB 1) (IB 3) (IB 5) (IB 7) (QB 0) (QB 1) (QB 2) (QB 3) z1 z2 y_11 rfl rfl rfl rfl ⟨⟨by omega, by omega⟩, ⟨by omega, by omega⟩⟩ ⟨⟨by omega, by omega⟩, ⟨by omega, by omega⟩⟩ ⟨⟨by omega, by omega⟩, ⟨by omega, by omega⟩⟩ ⟨⟨by omega, by omega⟩, ⟨by omega, by omega⟩⟩ ⟨by omega, by omega⟩ ⟨by omega, by omega⟩) ci_X11_write qm_L_34 ⟨Nat.le_of_ble_eq_true rfl, Nat.le_of_ble_eq_true rfl⟩ (lroom _) [0, 26, 27, 28, 29, 30, 31, 32, 33, 34] [1, 2, 3, 4, 5, 6, 7, 8, 9, 10, 11, 12, 13, 14, 15, 16, 17, 18, 19, 20, 21, 22, 23, 24, 25] rfl rfl rfl (by decide +kernel) (by decide +kernel) (by decide +kernel) 0 rfl rfl rfl hl.1 rfl (Nat.le_of_ble_eq_true rfl) dL_law_457 (fun u_12 H locs hφ hP hD hS => ?_)
  obtain ⟨I_13, L_14, F_15, G_16⟩ := u_12
  have p_18 : (((I_13 0) : Int) = 1 ∧ (((z1 : Int) = 0 ∧ 0 ≤ z2 ∧ z2 < (IB 1)) ∨ ((z1 : Int) = 1 ∧ 0 ≤ z2 ∧ z2 < (IB 3)) ∨ ((z1 : Int) = 2 ∧ 0 ≤ z2 ∧ z2 < (IB 5)) ∨ ((z1 : Int) = 3 ∧ 0 ≤ z2 ∧ z2 < (IB 7)))) ∨ (((I_13 0) : Int) = 0 ∧ ¬ (((z1 : Int) = 0 ∧ 0 ≤ z2 ∧ z2 < (IB 1)) ∨ ((z1 : Int) = 1 ∧ 0 ≤ z2 ∧ z2 < (IB 3)) ∨ ((z1 : Int) = 2 ∧ 0 ≤ z2 ∧ z2 < (IB 5)) ∨ ((z1 : Int) = 3 ∧ 0 ≤ z2 ∧ z2 < (IB 7)))) := hφ
  obtain ⟨hP, hD⟩ := PD.by2 (is := [25, 0, 1, 2, 3, 4, 5, 6, 7, 8, 9, 10, 11, 12, 13, 14, 15, 16, 17, 18, 19, 20, 21, 22, 23, 24, 26, 27, 28, 29, 30, 31, 32, 33, 34]) (y := (GA k a (fun i => [(IA 0), (IA 1), (I_13 1), (IA 3), (IA 4), (IA 5), (IA 6), (IA 7), (IA 8), (IA 9), (IA 10), (IA 11), (IA 12), (IA 13), (IA 14), (IA 15), (IA 16), (IA 17), (IA 18)].getD i 0) LA FA QA VA r) ++ ((GB k a IB LB FB (fun i => [(G_16 0), (G_16 1), (G_16 2), (G_16 3)].getD i (fun _ => 0)) VB r))) ⟨hP, hD⟩ (by decide +kernel) rfl
  obtain ⟨hP, hD⟩ := PD.as2 ⟨hP, hD⟩
  refine W.eq (g2 := F0 m 460 ls [.int (iZ (I_13 0))]) rfl ?_
  refine lv_pop hx hb dL_law_460 rfl ?_
  refine lv_aload_n hx hb dL_law_461 rfl (lv_at hl 1 rfl) ?_
  refine lv_aload_n hx hb dL_law_462 rfl (lv_at hl 3 rfl) ?_
  refine lv_iload_n hx hb dL_law_463 rfl (lv_at hl 0 rfl) ?_
  refine lv_iconst (v := iZ 1) hx hb dL_law_464 (by decide) ?_
  refine lv_iadd hx hb dL_law_465 ?_
  refine lv_topi (fun x_19 ex_19 => ?_)
  obtain rfl : x_19 = iZ (i + 1) := ex_19.trans (iZ_add i 1)
  refine va_sld hx hb hX hbl hbA hS (zin (e := (i + 1)) (n := L) ⟨by omega, by omega⟩ (by omega)) dL_law_466 ?_
  refine lv_topi (fun x_20 ex_20 => ?_)
  obtain rfl : x_20 = iZ z1 := ex_20.trans hz1
  refine lv_aload_n hx hb dL_law_467 rfl (lv_at hl 3 rfl) ?_
  refine lv_iload_n hx hb dL_law_468 rfl (lv_at hl 0 rfl) ?_
  refine lv_iconst (v := iZ 2) hx hb dL_law_469 (by decide) ?_
  refine lv_iadd hx hb dL_law_470 ?_
  refine lv_topi (fun x_21 ex_21 => ?_)
  obtain rfl : x_21 = iZ (i + 2) := ex_21.trans (iZ_add i 2)
  refine va_sld hx hb hX hbl hbA hS (zin (e := (i + 2)) (n := L) ⟨by omega, by omega⟩ (by omega)) dL_law_471 ?_
  refine lv_topi (fun x_22 ex_22 => ?_)
  obtain rfl : x_22 = iZ z2 := ex_22.trans hz2
  refine lv_aload_n hx hb dL_law_472 rfl (lv_at hl 3 rfl) ?_
  refine lv_iload_n hx hb dL_law_473 rfl (lv_at hl 0 rfl) ?_
  refine lv_iconst (v := iZ 3) hx hb dL_law_474 (by decide) ?_
  refine lv_iadd hx hb dL_law_475 ?_
  refine lv_topi (fun x_23 ex_23 => ?_)
  obtain rfl : x_23 = iZ (i + 3) := ex_23.trans (iZ_add i 3)
  refine va_sld hx hb hX hbl hbA hS (zin (e := (i + 3)) (n := L) ⟨by omega, by omega⟩ (by omega)) dL_law_476 ?_
  refine lv_topi (fun x_24 ex_24 => ?_)
  obtain rfl : x_24 = iZ z3 := ex_24.trans hz3
  refine lv_i2l (v := (iZ z3).toInt64) hx hb dL_law_477 rfl ?_
  refine lv_bipush (v := iZ 32) hx hb dL_law_478 (by decide) ?_
  refine lv_lshl (v := _) hx hb dL_law_480 rfl ?_
  refine lv_topl (fun y_25 ey_25 => ?_)
  refine lv_aload_n hx hb dL_law_481 rfl (lv_at hl 3 rfl) ?_
  refine lv_iload_n hx hb dL_law_482 rfl (lv_at hl 0 rfl) ?_
  refine lv_iconst (v := iZ 4) hx hb dL_law_483 (by decide) ?_
  refine lv_iadd hx hb dL_law_484 ?_
  refine lv_topi (fun x_26 ex_26 => ?_)
  obtain rfl : x_26 = iZ (i + 4) := ex_26.trans (iZ_add i 4)
  refine va_sld hx hb hX hbl hbA hS (zin (e := (i + 4)) (n := L) ⟨by omega, by omega⟩ (by omega)) dL_law_485 ?_
  refine lv_topi (fun x_27 ex_27 => ?_)
  obtain rfl : x_27 = iZ z4 := ex_27.trans hz4
  refine lv_i2l (v := (iZ z4).toInt64) hx hb dL_law_486 rfl ?_
  refine lv_ldc2 (own := RL) (v := 4294967295) hx hb hown (hts _ qk_L_32) dL_law_487 ?_
  refine lv_land hx hb dL_law_490 ?_
  refine lv_topl (fun y_28 ey_28 => ?_)
  refine lv_lor hx hb dL_law_491 ?_
  refine lv_topl (fun y_29 ey_29 => ?_)
  obtain ⟨hP, hD⟩ := PD.fr5 ⟨hP, hD⟩
  refine CKV2 (As := [.int (iZ z1), .int (iZ z2), .long y_29]) (rest := []) (tl := (GA k a (fun i => [(IA 0), (IA 1), (I_13 1), (IA 3), (IA 4), (IA 5), (IA 6), (IA 7), (IA 8), (IA 9), (IA 10), (IA 11), (IA 12), (IA 13), (IA 14), (IA 15), (IA 16), (IA 17), (IA 18)].getD i 0) LA FA QA VA r) ++ ((GB k a IB LB FB (fun i => [(G_16 0), (G_16 1), (G_16 2), (G_16 3)].getD i (fun _ => 0)) VB r) ++ ((GC k a IC LC FC QC VC r) ++ ((GD k a ID LD FD QD VD r) ++ (r.tl))))) hx hb hml hown hts hKK hP hD hS hA (q_write l D k (a 106) (a 107) (a 108) (a 109) (a 110) (a 111) (a 112) (a 113) (a 114) (a 115) (a 116) (a 117) (a 118) (a 119) (a 120) (a 121) (a 122) (IR 0) (IR 1) (IR 2) (IR 3) (IR 4) (IR 5) (IR 6) (IR 7) (IR 8) (IR 9) (IR 10) (IR 11) (IR 12) (IR 13) (IR 14) (IR 15) (IR 16) (IR 17) (LR 0) (LR 1) (FR 1) (FR 2) (QR 1) z1 z2 y_29 rgS rgY ⟨by omega, by omega⟩ ⟨by omega, by omega⟩) ci_X12_write qm_L_38 ⟨Nat.le_of_ble_eq_true rfl, Nat.le_of_ble_eq_true rfl⟩ (lroom _) [0, 3, 4, 5] [1, 2, 6, 7, 8, 9, 10, 11, 12, 13, 14, 15, 16] rfl rfl rfl (by decide +kernel) (by decide +kernel) (by decide +kernel) 0 rfl rfl rfl hl.1 rfl (Nat.le_of_ble_eq_true rfl) dL_law_492 (fun u_30 H locs hφ hP hD hS => ?_)
  obtain ⟨I_31, L_32, F_33, G_34⟩ := u_30
  have p_36 : (((I_31 0) : Int) = 1 ∧ ((0 ≤ z1 ∧ z1 ≤ 3) ∧ 0 ≤ z2 ∧ z2 < gz (FR 2) z1)) ∨ (((I_31 0) : Int) = 0 ∧ ¬ ((0 ≤ z1 ∧ z1 ≤ 3) ∧ 0 ≤ z2 ∧ z2 < gz (FR 2) z1)) := hφ
  obtain ⟨hP, hD⟩ := PD.by2 (is := [13, 0, 1, 14, 15, 16, 2, 3, 4, 5, 6, 7, 8, 9, 10, 11, 12]) (y := (GR k a (fun i => [(I_31 1), (IR 1), (IR 2), (IR 3), (IR 4), (IR 5), (IR 6), (IR 7), (IR 8), (IR 9), (IR 10), (IR 11), (IR 12), (IR 13), (IR 14), (IR 15), (IR 16), (IR 17)].getD i 0) LR FR (fun i => [(QR 0), (G_34 0)].getD i (fun _ => 0)) VR r)) ⟨hP, hD⟩ (by decide +kernel) rfl
  refine W.eq (g2 := F0 m 495 ls [.int (iZ (I_31 0))]) rfl ?_
  refine lv_pop hx hb dL_law_495 rfl ?_
  refine lv_goto (tgt := 2846) hx hb dL_law_496 (by decide) ?_
  obtain ⟨hP, hD⟩ := PD.fr5 ⟨hP, hD⟩
  obtain ⟨hP, hD⟩ := PD.fr5 ⟨hP, hD⟩
  obtain ⟨hP, hD⟩ := PD.fr5 ⟨hP, hD⟩
  obtain ⟨hP, hD⟩ := PD.fr5 ⟨hP, hD⟩
  exact hk a (fun i => [(IA 0), (IA 1), (I_13 1), (IA 3), (IA 4), (IA 5), (IA 6), (IA 7), (IA 8), (IA 9), (IA 10), (IA 11), (IA 12), (IA 13), (IA 14), (IA 15), (IA 16), (IA 17), (IA 18)].getD i 0) LA FA QA VA IB LB FB (fun i => [(G_16 0), (G_16 1), (G_16 2), (G_16 3)].getD i (fun _ => 0)) VB IC LC FC QC VC ID LD FD QD VD (fun i => [(I_31 1), (IR 1), (IR 2), (IR 3), (IR 4), (IR 5), (IR 6), (IR 7), (IR 8), (IR 9), (IR 10), (IR 11), (IR 12), (IR 13), (IR 14), (IR 15), (IR 16), (IR 17)].getD i 0) LR FR (fun i => [(QR 0), (G_34 0)].getD i (fun _ => 0)) VR r H locs ls (show INV _ _ _ _ _ _ _ _ _ _ from ⟨hWI, hWI_0, hWI_1, hWI_2, hrd, htr0, htr1, htr2, htr3, hrgk, hrgt, hdrc, hev, hmk, hM, hMK, hTI, hFS, htd, hlt, rgH, rgS, rgY, hdr, hit, hmmk, heq, htq, hrel⟩) hRT hP hD hS (lv_sub hl [0, 1, 2, 3] rfl)
set_option maxHeartbeats 40000000 in
set_option maxRecDepth 100000 in
theorem law_c5 {p : Program} {e : Env} {s : State} {m : MethodId} {below : List Frame} {meth : Method} {c : Code} (l : Launch) {b L : Nat} {xs : Nat → Int32} {A : Nat → Prop} {D : va_G} {k : Nat → ClassId} {sa sv : Nat} {i : Int} (C : LFX p s m meth c b L xs A D k sa sv) (hi : 0 ≤ i ∧ i + 6 ≤ (L : Int)) (hk : LAT p l e s m below meth c b A D k 2846 i) : LAT p l e s m below meth c b A D k 499 i := by
  obtain ⟨hx, hb, hr, hml, hown, hts, hKK, hX, hbl, hbA, hA, hAf, hlocks, hSY, hRR, hL⟩ := id C
  intro a IA LA FA QA VA IB LB FB QB VB IC LC FC QC VC ID LD FD QD VD IR LR FR QR VR r H locs ls hI hRT hP hD hS hl
  have hK := hKK.1
  obtain ⟨hP, hD⟩ : PD D A ((GA k a IA LA FA QA VA r) ++ ((GB k a IB LB FB QB VB r) ++ ((GC k a IC LC FC QC VC r) ++ ((GD k a ID LD FD QD VD r) ++ ((GR k a IR LR FR QR VR r) ++ (r.tl)))))) H := ⟨hP, hD⟩
  obtain ⟨hWI, hWI_0, hWI_1, hWI_2, hrd, htr0, htr1, htr2, htr3, hrgk, hrgt, hdrc, hev, hmk, hM, hMK, hTI, hFS, htd, hlt, rgH, rgS, rgY, hdr, hit, hmmk, heq, htq, hrel⟩ := id hI
  obtain ⟨gw1, gw2, gw3, gw4, gw5, gw6, gw7, gw8, gw9, gw10, gw11⟩ := id hWI
  have hx0 := gw9
  have hYI := gw11
  obtain ⟨z1, hz1, hz1a, hz1b⟩ := i32_z (xs (iZ (i + 1)).toNatClampNeg)
  obtain ⟨z2, hz2, hz2a, hz2b⟩ := i32_z (xs (iZ (i + 2)).toNatClampNeg)
  obtain ⟨z3, hz3, hz3a, hz3b⟩ := i32_z (xs (iZ (i + 3)).toNatClampNeg)
  obtain ⟨z4, hz4, hz4a, hz4b⟩ := i32_z (xs (iZ (i + 4)).toNatClampNeg)
  obtain ⟨z5, hz5, hz5a, hz5b⟩ := i32_z (xs (iZ (i + 5)).toNatClampNeg)
  have hl : lv_has ls 4 [(3, .int (iZ i)), (2, .ref (a 106)), (1, .ref (a 0)), (0, .ref b)] := hl
  refine lv_aload_n hx hb dL_law_499 rfl (lv_at hl 2 rfl) ?_
  refine lv_aload_n hx hb dL_law_500 rfl (lv_at hl 3 rfl) ?_
  refine lv_iload_n hx hb dL_law_501 rfl (lv_at hl 0 rfl) ?_
  refine lv_iconst (v := iZ 1) hx hb dL_law_502 (by decide) ?_
  refine lv_iadd hx hb dL_law_503 ?_
  refine lv_topi (fun x_1 ex_1 => ?_)
  obtain rfl : x_1 = iZ (i + 1) := ex_1.trans (iZ_add i 1)
  refine va_sld hx hb hX hbl hbA hS (zin (e := (i + 1)) (n := L) ⟨by omega, by omega⟩ (by omega)) dL_law_504 ?_
  refine lv_topi (fun x_2 ex_2 => ?_)
  obtain rfl : x_2 = iZ z1 := ex_2.trans hz1
  refine lv_aload_n hx hb dL_law_505 rfl (lv_at hl 3 rfl) ?_
  refine lv_iload_n hx hb dL_law_506 rfl (lv_at hl 0 rfl) ?_
  refine lv_iconst (v := iZ 2) hx hb dL_law_507 (by decide) ?_
  refine lv_iadd hx hb dL_law_508 ?_
  refine lv_topi (fun x_3 ex_3 => ?_)
  obtain rfl : x_3 = iZ (i + 2) := ex_3.trans (iZ_add i 2)
  refine va_sld hx hb hX hbl hbA hS (zin (e := (i + 2)) (n := L) ⟨by omega, by omega⟩ (by omega)) dL_law_509 ?_
  refine lv_topi (fun x_4 ex_4 => ?_)
  obtain rfl : x_4 = iZ z2 := ex_4.trans hz2
  obtain ⟨hP, hD⟩ := PD.swap ⟨hP, hD⟩
  obtain ⟨hP, hD⟩ := PD.swap ⟨hP, hD⟩
  obtain ⟨hP, hD⟩ := PD.sa2 ⟨hP, hD⟩
  refine CKV2 (As := [.int (iZ z1), .int (iZ z2)]) (rest := []) (tl := (GC k a IC LC FC QC VC r) ++ ((GD k a ID LD FD QD VD r) ++ ((GR k a IR LR FR QR VR r) ++ (r.tl)))) hx hb hml hown hts hKK hP hD hS hA (p_read l D k (a 0) (a 1) (a 2) (a 3) (a 4) (a 5) (a 6) (a 7) (a 8) (a 9) (a 10) (a 11) (IA 0) (IA 1) (IA 2) (LA 0) (LA 1) (fun i => some (a (12 + i))) (a 12) (a 13) (a 14) (a 15) (a 19) (a 20) (a 21) (a 22) (IB 0) (IB 2) (IB 4) (IB 6) (IB 1) (IB 3) (IB 5) (IB 7) (QB 0) (QB 1) (QB 2) (QB 3) z1 z2 rfl rfl rfl rfl ⟨⟨by omega, by omega⟩, ⟨by omega, by omega⟩⟩ ⟨⟨by omega, by omega⟩, ⟨by omega, by omega⟩⟩ ⟨⟨by omega, by omega⟩, ⟨by omega, by omega⟩⟩ ⟨⟨by omega, by omega⟩, ⟨by omega, by omega⟩⟩ ⟨by omega, by omega⟩ ⟨by omega, by omega⟩) ci_X11_read qm_L_39 ⟨Nat.le_of_ble_eq_true rfl, Nat.le_of_ble_eq_true rfl⟩ (lroom _) [0, 26, 27, 28, 29, 30, 31, 32, 33, 34] [1, 2, 3, 4, 5, 6, 7, 8, 9, 10, 11, 12, 13, 14, 15, 16, 17, 18, 19, 20, 21, 22, 23, 24, 25] rfl rfl rfl (by decide +kernel) (by decide +kernel) (by decide +kernel) 0 rfl rfl rfl hl.1 rfl (Nat.le_of_ble_eq_true rfl) dL_law_510 (fun u_5 H locs hφ hP hD hS => ?_)
  obtain ⟨I_6, L_7, F_8, G_9⟩ := u_5
  obtain ⟨hP, hD⟩ := PD.by2 (is := [25, 0, 1, 2, 3, 4, 5, 6, 7, 8, 9, 10, 11, 12, 13, 14, 15, 16, 17, 18, 19, 20, 21, 22, 23, 24, 26, 27, 28, 29, 30, 31, 32, 33, 34]) (y := (GA k a (fun i => [(IA 0), (IA 1), (I_6 1), (IA 3), (IA 4), (IA 5), (IA 6), (IA 7), (IA 8), (IA 9), (IA 10), (IA 11), (IA 12), (IA 13), (IA 14), (IA 15), (IA 16), (IA 17), (IA 18)].getD i 0) LA FA QA VA r) ++ ((GB k a IB LB FB QB VB r))) ⟨hP, hD⟩ (by decide +kernel) rfl
  obtain ⟨hP, hD⟩ := PD.as2 ⟨hP, hD⟩
  refine W.eq (g2 := F0 m 513 ls [.long (L_7 0)]) rfl ?_
  refine lv_pop2_2 hx hb dL_law_513 rfl ?_
  refine lv_aload_n hx hb dL_law_514 rfl (lv_at hl 1 rfl) ?_
  refine lv_aload_n hx hb dL_law_515 rfl (lv_at hl 3 rfl) ?_
  refine lv_iload_n hx hb dL_law_516 rfl (lv_at hl 0 rfl) ?_
  refine lv_iconst (v := iZ 1) hx hb dL_law_517 (by decide) ?_
  refine lv_iadd hx hb dL_law_518 ?_
  refine lv_topi (fun x_11 ex_11 => ?_)
  obtain rfl : x_11 = iZ (i + 1) := ex_11.trans (iZ_add i 1)
  refine va_sld hx hb hX hbl hbA hS (zin (e := (i + 1)) (n := L) ⟨by omega, by omega⟩ (by omega)) dL_law_519 ?_
  refine lv_topi (fun x_12 ex_12 => ?_)
  obtain rfl : x_12 = iZ z1 := ex_12.trans hz1
  refine lv_aload_n hx hb dL_law_520 rfl (lv_at hl 3 rfl) ?_
  refine lv_iload_n hx hb dL_law_521 rfl (lv_at hl 0 rfl) ?_
  refine lv_iconst (v := iZ 2) hx hb dL_law_522 (by decide) ?_
  refine lv_iadd hx hb dL_law_523 ?_
  refine lv_topi (fun x_13 ex_13 => ?_)
  obtain rfl : x_13 = iZ (i + 2) := ex_13.trans (iZ_add i 2)
  refine va_sld hx hb hX hbl hbA hS (zin (e := (i + 2)) (n := L) ⟨by omega, by omega⟩ (by omega)) dL_law_524 ?_
  refine lv_topi (fun x_14 ex_14 => ?_)
  obtain rfl : x_14 = iZ z2 := ex_14.trans hz2
  obtain ⟨hP, hD⟩ := PD.fr5 ⟨hP, hD⟩
  refine CKV2 (As := [.int (iZ z1), .int (iZ z2)]) (rest := []) (tl := (GA k a (fun i => [(IA 0), (IA 1), (I_6 1), (IA 3), (IA 4), (IA 5), (IA 6), (IA 7), (IA 8), (IA 9), (IA 10), (IA 11), (IA 12), (IA 13), (IA 14), (IA 15), (IA 16), (IA 17), (IA 18)].getD i 0) LA FA QA VA r) ++ ((GB k a IB LB FB QB VB r) ++ ((GC k a IC LC FC QC VC r) ++ ((GD k a ID LD FD QD VD r) ++ (r.tl))))) hx hb hml hown hts hKK hP hD hS hA (q_read l D k (a 106) (a 107) (a 108) (a 109) (a 110) (a 111) (a 112) (a 113) (a 114) (a 115) (a 116) (a 117) (a 118) (a 119) (a 120) (a 121) (a 122) (IR 0) (IR 1) (IR 2) (IR 3) (IR 4) (IR 5) (IR 6) (IR 7) (IR 8) (IR 9) (IR 10) (IR 11) (IR 12) (IR 13) (IR 14) (IR 15) (IR 16) (IR 17) (LR 0) (LR 1) (FR 1) (FR 2) (QR 1) z1 z2 rgS rgY ⟨by omega, by omega⟩ ⟨by omega, by omega⟩) ci_X12_read qm_L_43 ⟨Nat.le_of_ble_eq_true rfl, Nat.le_of_ble_eq_true rfl⟩ (lroom _) [0, 3, 4, 5] [1, 2, 6, 7, 8, 9, 10, 11, 12, 13, 14, 15, 16] rfl rfl rfl (by decide +kernel) (by decide +kernel) (by decide +kernel) 0 rfl rfl rfl hl.1 rfl (Nat.le_of_ble_eq_true rfl) dL_law_525 (fun u_15 H locs hφ hP hD hS => ?_)
  obtain ⟨I_16, L_17, F_18, G_19⟩ := u_15
  obtain ⟨hP, hD⟩ := PD.by2 (is := [13, 0, 1, 14, 15, 16, 2, 3, 4, 5, 6, 7, 8, 9, 10, 11, 12]) (y := (GR k a (fun i => [(I_16 1), (IR 1), (IR 2), (IR 3), (IR 4), (IR 5), (IR 6), (IR 7), (IR 8), (IR 9), (IR 10), (IR 11), (IR 12), (IR 13), (IR 14), (IR 15), (IR 16), (IR 17)].getD i 0) LR FR QR VR r)) ⟨hP, hD⟩ (by decide +kernel) rfl
  refine W.eq (g2 := F0 m 528 ls [.long (L_17 0)]) rfl ?_
  refine lv_pop2_2 hx hb dL_law_528 rfl ?_
  refine lv_goto (tgt := 2846) hx hb dL_law_529 (by decide) ?_
  obtain ⟨hP, hD⟩ := PD.fr5 ⟨hP, hD⟩
  obtain ⟨hP, hD⟩ := PD.fr5 ⟨hP, hD⟩
  obtain ⟨hP, hD⟩ := PD.fr5 ⟨hP, hD⟩
  obtain ⟨hP, hD⟩ := PD.fr5 ⟨hP, hD⟩
  exact hk a (fun i => [(IA 0), (IA 1), (I_6 1), (IA 3), (IA 4), (IA 5), (IA 6), (IA 7), (IA 8), (IA 9), (IA 10), (IA 11), (IA 12), (IA 13), (IA 14), (IA 15), (IA 16), (IA 17), (IA 18)].getD i 0) LA FA QA VA IB LB FB QB VB IC LC FC QC VC ID LD FD QD VD (fun i => [(I_16 1), (IR 1), (IR 2), (IR 3), (IR 4), (IR 5), (IR 6), (IR 7), (IR 8), (IR 9), (IR 10), (IR 11), (IR 12), (IR 13), (IR 14), (IR 15), (IR 16), (IR 17)].getD i 0) LR FR QR VR r H locs ls (show INV _ _ _ _ _ _ _ _ _ _ from ⟨hWI, hWI_0, hWI_1, hWI_2, hrd, htr0, htr1, htr2, htr3, hrgk, hrgt, hdrc, hev, hmk, hM, hMK, hTI, hFS, htd, hlt, rgH, rgS, rgY, hdr, hit, hmmk, heq, htq, hrel⟩) hRT hP hD hS (lv_sub hl [0, 1, 2, 3] rfl)
set_option maxHeartbeats 40000000 in
set_option maxRecDepth 100000 in
theorem law_c6 {p : Program} {e : Env} {s : State} {m : MethodId} {below : List Frame} {meth : Method} {c : Code} (l : Launch) {b L : Nat} {xs : Nat → Int32} {A : Nat → Prop} {D : va_G} {k : Nat → ClassId} {sa sv : Nat} {i : Int} (C : LFX p s m meth c b L xs A D k sa sv) (hi : 0 ≤ i ∧ i + 6 ≤ (L : Int)) (hk : LAT p l e s m below meth c b A D k 2846 i) : LAT p l e s m below meth c b A D k 532 i := by
  obtain ⟨hx, hb, hr, hml, hown, hts, hKK, hX, hbl, hbA, hA, hAf, hlocks, hSY, hRR, hL⟩ := id C
  intro a IA LA FA QA VA IB LB FB QB VB IC LC FC QC VC ID LD FD QD VD IR LR FR QR VR r H locs ls hI hRT hP hD hS hl
  have hK := hKK.1
  obtain ⟨hP, hD⟩ : PD D A ((GA k a IA LA FA QA VA r) ++ ((GB k a IB LB FB QB VB r) ++ ((GC k a IC LC FC QC VC r) ++ ((GD k a ID LD FD QD VD r) ++ ((GR k a IR LR FR QR VR r) ++ (r.tl)))))) H := ⟨hP, hD⟩
  obtain ⟨hWI, hWI_0, hWI_1, hWI_2, hrd, htr0, htr1, htr2, htr3, hrgk, hrgt, hdrc, hev, hmk, hM, hMK, hTI, hFS, htd, hlt, rgH, rgS, rgY, hdr, hit, hmmk, heq, htq, hrel⟩ := id hI
  obtain ⟨gw1, gw2, gw3, gw4, gw5, gw6, gw7, gw8, gw9, gw10, gw11⟩ := id hWI
  have hx0 := gw9
  have hYI := gw11
  obtain ⟨z1, hz1, hz1a, hz1b⟩ := i32_z (xs (iZ (i + 1)).toNatClampNeg)
  obtain ⟨z2, hz2, hz2a, hz2b⟩ := i32_z (xs (iZ (i + 2)).toNatClampNeg)
  obtain ⟨z3, hz3, hz3a, hz3b⟩ := i32_z (xs (iZ (i + 3)).toNatClampNeg)
  obtain ⟨z4, hz4, hz4a, hz4b⟩ := i32_z (xs (iZ (i + 4)).toNatClampNeg)
  obtain ⟨z5, hz5, hz5a, hz5b⟩ := i32_z (xs (iZ (i + 5)).toNatClampNeg)
  have hl : lv_has ls 4 [(3, .int (iZ i)), (2, .ref (a 106)), (1, .ref (a 0)), (0, .ref b)] := hl
  refine lv_aload_n hx hb dL_law_532 rfl (lv_at hl 2 rfl) ?_
  refine lv_aload_n hx hb dL_law_533 rfl (lv_at hl 3 rfl) ?_
  refine lv_iload_n hx hb dL_law_534 rfl (lv_at hl 0 rfl) ?_
  refine lv_iconst (v := iZ 1) hx hb dL_law_535 (by decide) ?_
  refine lv_iadd hx hb dL_law_536 ?_
  refine lv_topi (fun x_1 ex_1 => ?_)
  obtain rfl : x_1 = iZ (i + 1) := ex_1.trans (iZ_add i 1)
  refine va_sld hx hb hX hbl hbA hS (zin (e := (i + 1)) (n := L) ⟨by omega, by omega⟩ (by omega)) dL_law_537 ?_
  refine lv_topi (fun x_2 ex_2 => ?_)
  obtain rfl : x_2 = iZ z1 := ex_2.trans hz1
  refine lv_aload_n hx hb dL_law_538 rfl (lv_at hl 3 rfl) ?_
  refine lv_iload_n hx hb dL_law_539 rfl (lv_at hl 0 rfl) ?_
  refine lv_iconst (v := iZ 2) hx hb dL_law_540 (by decide) ?_
  refine lv_iadd hx hb dL_law_541 ?_
  refine lv_topi (fun x_3 ex_3 => ?_)
  obtain rfl : x_3 = iZ (i + 2) := ex_3.trans (iZ_add i 2)
  refine va_sld hx hb hX hbl hbA hS (zin (e := (i + 2)) (n := L) ⟨by omega, by omega⟩ (by omega)) dL_law_542 ?_
  refine lv_topi (fun x_4 ex_4 => ?_)
  obtain rfl : x_4 = iZ z2 := ex_4.trans hz2
  refine lv_aload_n hx hb dL_law_543 rfl (lv_at hl 3 rfl) ?_
  refine lv_iload_n hx hb dL_law_544 rfl (lv_at hl 0 rfl) ?_
  refine lv_iconst (v := iZ 3) hx hb dL_law_545 (by decide) ?_
  refine lv_iadd hx hb dL_law_546 ?_
  refine lv_topi (fun x_5 ex_5 => ?_)
  obtain rfl : x_5 = iZ (i + 3) := ex_5.trans (iZ_add i 3)
  refine va_sld hx hb hX hbl hbA hS (zin (e := (i + 3)) (n := L) ⟨by omega, by omega⟩ (by omega)) dL_law_547 ?_
  refine lv_topi (fun x_6 ex_6 => ?_)
  obtain rfl : x_6 = iZ z3 := ex_6.trans hz3
  refine lv_aload_n hx hb dL_law_548 rfl (lv_at hl 3 rfl) ?_
  refine lv_iload_n hx hb dL_law_549 rfl (lv_at hl 0 rfl) ?_
  refine lv_iconst (v := iZ 4) hx hb dL_law_550 (by decide) ?_
  refine lv_iadd hx hb dL_law_551 ?_
  refine lv_topi (fun x_7 ex_7 => ?_)
  obtain rfl : x_7 = iZ (i + 4) := ex_7.trans (iZ_add i 4)
  refine va_sld hx hb hX hbl hbA hS (zin (e := (i + 4)) (n := L) ⟨by omega, by omega⟩ (by omega)) dL_law_552 ?_
  refine lv_topi (fun x_8 ex_8 => ?_)
  obtain rfl : x_8 = iZ z4 := ex_8.trans hz4
  refine lv_aload_n hx hb dL_law_553 rfl (lv_at hl 3 rfl) ?_
  refine lv_iload_n hx hb dL_law_554 rfl (lv_at hl 0 rfl) ?_
  refine lv_iconst (v := iZ 5) hx hb dL_law_555 (by decide) ?_
  refine lv_iadd hx hb dL_law_556 ?_
  refine lv_topi (fun x_9 ex_9 => ?_)
  obtain rfl : x_9 = iZ (i + 5) := ex_9.trans (iZ_add i 5)
  refine va_sld hx hb hX hbl hbA hS (zin (e := (i + 5)) (n := L) ⟨by omega, by omega⟩ (by omega)) dL_law_557 ?_
  refine lv_topi (fun x_10 ex_10 => ?_)
  obtain rfl : x_10 = iZ z5 := ex_10.trans hz5
  obtain ⟨hP, hD⟩ := PD.swap ⟨hP, hD⟩
  obtain ⟨hP, hD⟩ := PD.swap ⟨hP, hD⟩
  obtain ⟨hP, hD⟩ := PD.sa2 ⟨hP, hD⟩
  refine CKV2 (As := [.int (iZ z1), .int (iZ z2), .int (iZ z3), .int (iZ z4), .int (iZ z5)]) (rest := []) (tl := (GC k a IC LC FC QC VC r) ++ ((GD k a ID LD FD QD VD r) ++ ((GR k a IR LR FR QR VR r) ++ (r.tl)))) hx hb hml hown hts hKK hP hD hS hA (p_pour l D k (a 0) (a 1) (a 2) (a 3) (a 4) (a 5) (a 6) (a 7) (a 8) (a 9) (a 10) (a 11) (IA 0) (IA 1) (IA 2) (LA 0) (LA 1) (fun i => some (a (12 + i))) (a 12) (a 13) (a 14) (a 15) (a 19) (a 20) (a 21) (a 22) (IB 0) (IB 2) (IB 4) (IB 6) (IB 1) (IB 3) (IB 5) (IB 7) (QB 0) (QB 1) (QB 2) (QB 3) z1 z2 z3 z4 z5 rfl rfl rfl rfl ⟨⟨by omega, by omega⟩, ⟨by omega, by omega⟩⟩ ⟨⟨by omega, by omega⟩, ⟨by omega, by omega⟩⟩ ⟨⟨by omega, by omega⟩, ⟨by omega, by omega⟩⟩ ⟨⟨by omega, by omega⟩, ⟨by omega, by omega⟩⟩ ⟨by omega, by omega⟩ ⟨by omega, by omega⟩ ⟨by omega, by omega⟩ ⟨by omega, by omega⟩ ⟨by omega, by omega⟩) ci_X11_pour qm_L_44 ⟨Nat.le_of_ble_eq_true rfl, Nat.le_of_ble_eq_true rfl⟩ (lroom _) [0, 26, 27, 28, 29, 30, 31, 32, 33, 34] [1, 2, 3, 4, 5, 6, 7, 8, 9, 10, 11, 12, 13, 14, 15, 16, 17, 18, 19, 20, 21, 22, 23, 24, 25] rfl rfl rfl (by decide +kernel) (by decide +kernel) (by decide +kernel) 0 rfl rfl rfl hl.1 rfl (Nat.le_of_ble_eq_true rfl) dL_law_558 (fun u_11 H locs hφ hP hD hS => ?_)
  obtain ⟨I_12, L_13, F_14, G_15⟩ := u_11
  have p_17 : (((I_12 0) : Int) = 1 ∧ (((0 ≤ (z1 : Int) ∧ (z1 : Int) ≤ 3) ∧ (0 ≤ (z3 : Int) ∧ (z3 : Int) ≤ 3) ∧ (0 ≤ z2 ∧ 0 ≤ z4 ∧ 0 ≤ z5)) ∧ (¬ s4 z1 (IB 1) (IB 3) (IB 5) (IB 7) = -1 ∧ ¬ s4 z3 (IB 1) (IB 3) (IB 5) (IB 7) = -1) ∧ s4 z1 (IB 0) (IB 2) (IB 4) (IB 6) = s4 z3 (IB 0) (IB 2) (IB 4) (IB 6) ∧ (z5 ≤ s4 z1 (IB 1) (IB 3) (IB 5) (IB 7) - z2 ∧ z5 ≤ s4 z3 (IB 1) (IB 3) (IB 5) (IB 7) - z4))) ∨ (((I_12 0) : Int) = 0 ∧ ¬ (((0 ≤ (z1 : Int) ∧ (z1 : Int) ≤ 3) ∧ (0 ≤ (z3 : Int) ∧ (z3 : Int) ≤ 3) ∧ (0 ≤ z2 ∧ 0 ≤ z4 ∧ 0 ≤ z5)) ∧ (¬ s4 z1 (IB 1) (IB 3) (IB 5) (IB 7) = -1 ∧ ¬ s4 z3 (IB 1) (IB 3) (IB 5) (IB 7) = -1) ∧ s4 z1 (IB 0) (IB 2) (IB 4) (IB 6) = s4 z3 (IB 0) (IB 2) (IB 4) (IB 6) ∧ (z5 ≤ s4 z1 (IB 1) (IB 3) (IB 5) (IB 7) - z2 ∧ z5 ≤ s4 z3 (IB 1) (IB 3) (IB 5) (IB 7) - z4))) := hφ
  obtain ⟨hP, hD⟩ := PD.by2 (is := [25, 0, 1, 2, 3, 4, 5, 6, 7, 8, 9, 10, 11, 12, 13, 14, 15, 16, 17, 18, 19, 20, 21, 22, 23, 24, 26, 27, 28, 29, 30, 31, 32, 33, 34]) (y := (GA k a (fun i => [(IA 0), (IA 1), (I_12 1), (IA 3), (IA 4), (IA 5), (IA 6), (IA 7), (IA 8), (IA 9), (IA 10), (IA 11), (IA 12), (IA 13), (IA 14), (IA 15), (IA 16), (IA 17), (IA 18)].getD i 0) LA FA QA VA r) ++ ((GB k a IB LB FB (fun i => [(G_15 0), (G_15 1), (G_15 2), (G_15 3)].getD i (fun _ => 0)) VB r))) ⟨hP, hD⟩ (by decide +kernel) rfl
  obtain ⟨hP, hD⟩ := PD.as2 ⟨hP, hD⟩
  refine W.eq (g2 := F0 m 561 ls [.int (iZ (I_12 0))]) rfl ?_
  refine lv_aload_n hx hb dL_law_561 rfl (lv_at hl 1 rfl) ?_
  refine lv_aload_n hx hb dL_law_562 rfl (lv_at hl 3 rfl) ?_
  refine lv_iload_n hx hb dL_law_563 rfl (lv_at hl 0 rfl) ?_
  refine lv_iconst (v := iZ 1) hx hb dL_law_564 (by decide) ?_
  refine lv_iadd hx hb dL_law_565 ?_
  refine lv_topi (fun x_18 ex_18 => ?_)
  obtain rfl : x_18 = iZ (i + 1) := ex_18.trans (iZ_add i 1)
  refine va_sld hx hb hX hbl hbA hS (zin (e := (i + 1)) (n := L) ⟨by omega, by omega⟩ (by omega)) dL_law_566 ?_
  refine lv_topi (fun x_19 ex_19 => ?_)
  obtain rfl : x_19 = iZ z1 := ex_19.trans hz1
  refine lv_aload_n hx hb dL_law_567 rfl (lv_at hl 3 rfl) ?_
  refine lv_iload_n hx hb dL_law_568 rfl (lv_at hl 0 rfl) ?_
  refine lv_iconst (v := iZ 2) hx hb dL_law_569 (by decide) ?_
  refine lv_iadd hx hb dL_law_570 ?_
  refine lv_topi (fun x_20 ex_20 => ?_)
  obtain rfl : x_20 = iZ (i + 2) := ex_20.trans (iZ_add i 2)
  refine va_sld hx hb hX hbl hbA hS (zin (e := (i + 2)) (n := L) ⟨by omega, by omega⟩ (by omega)) dL_law_571 ?_
  refine lv_topi (fun x_21 ex_21 => ?_)
  obtain rfl : x_21 = iZ z2 := ex_21.trans hz2
  refine lv_aload_n hx hb dL_law_572 rfl (lv_at hl 3 rfl) ?_
  refine lv_iload_n hx hb dL_law_573 rfl (lv_at hl 0 rfl) ?_
  refine lv_iconst (v := iZ 3) hx hb dL_law_574 (by decide) ?_
  refine lv_iadd hx hb dL_law_575 ?_
  refine lv_topi (fun x_22 ex_22 => ?_)
  obtain rfl : x_22 = iZ (i + 3) := ex_22.trans (iZ_add i 3)
  refine va_sld hx hb hX hbl hbA hS (zin (e := (i + 3)) (n := L) ⟨by omega, by omega⟩ (by omega)) dL_law_576 ?_
  refine lv_topi (fun x_23 ex_23 => ?_)
  obtain rfl : x_23 = iZ z3 := ex_23.trans hz3
  refine lv_aload_n hx hb dL_law_577 rfl (lv_at hl 3 rfl) ?_
  refine lv_iload_n hx hb dL_law_578 rfl (lv_at hl 0 rfl) ?_
  refine lv_iconst (v := iZ 4) hx hb dL_law_579 (by decide) ?_
  refine lv_iadd hx hb dL_law_580 ?_
  refine lv_topi (fun x_24 ex_24 => ?_)
  obtain rfl : x_24 = iZ (i + 4) := ex_24.trans (iZ_add i 4)
  refine va_sld hx hb hX hbl hbA hS (zin (e := (i + 4)) (n := L) ⟨by omega, by omega⟩ (by omega)) dL_law_581 ?_
  refine lv_topi (fun x_25 ex_25 => ?_)
  obtain rfl : x_25 = iZ z4 := ex_25.trans hz4
  refine lv_aload_n hx hb dL_law_582 rfl (lv_at hl 3 rfl) ?_
  refine lv_iload_n hx hb dL_law_583 rfl (lv_at hl 0 rfl) ?_
  refine lv_iconst (v := iZ 5) hx hb dL_law_584 (by decide) ?_
  refine lv_iadd hx hb dL_law_585 ?_
  refine lv_topi (fun x_26 ex_26 => ?_)
  obtain rfl : x_26 = iZ (i + 5) := ex_26.trans (iZ_add i 5)
  refine va_sld hx hb hX hbl hbA hS (zin (e := (i + 5)) (n := L) ⟨by omega, by omega⟩ (by omega)) dL_law_586 ?_
  refine lv_topi (fun x_27 ex_27 => ?_)
  obtain rfl : x_27 = iZ z5 := ex_27.trans hz5
  obtain ⟨hP, hD⟩ := PD.fr5 ⟨hP, hD⟩
  refine CKV2 (As := [.int (iZ z1), .int (iZ z2), .int (iZ z3), .int (iZ z4), .int (iZ z5)]) (rest := [.int (iZ (I_12 0))]) (tl := (GA k a (fun i => [(IA 0), (IA 1), (I_12 1), (IA 3), (IA 4), (IA 5), (IA 6), (IA 7), (IA 8), (IA 9), (IA 10), (IA 11), (IA 12), (IA 13), (IA 14), (IA 15), (IA 16), (IA 17), (IA 18)].getD i 0) LA FA QA VA r) ++ ((GB k a IB LB FB (fun i => [(G_15 0), (G_15 1), (G_15 2), (G_15 3)].getD i (fun _ => 0)) VB r) ++ ((GC k a IC LC FC QC VC r) ++ ((GD k a ID LD FD QD VD r) ++ (r.tl))))) hx hb hml hown hts hKK hP hD hS hA (q_pour l D k (a 106) (a 107) (a 108) (a 109) (a 110) (a 111) (a 112) (a 113) (a 114) (a 115) (a 116) (a 117) (a 118) (a 119) (a 120) (a 121) (a 122) (IR 0) (IR 1) (IR 2) (IR 3) (IR 4) (IR 5) (IR 6) (IR 7) (IR 8) (IR 9) (IR 10) (IR 11) (IR 12) (IR 13) (IR 14) (IR 15) (IR 16) (IR 17) (LR 0) (LR 1) (FR 1) (FR 2) (QR 1) z1 z2 z3 z4 z5 rgS rgY ⟨by omega, by omega⟩ ⟨by omega, by omega⟩ ⟨by omega, by omega⟩ ⟨by omega, by omega⟩ ⟨by omega, by omega⟩) ci_X12_pour qm_L_48 ⟨Nat.le_of_ble_eq_true rfl, Nat.le_of_ble_eq_true rfl⟩ (lroom _) [0, 3, 4, 5] [1, 2, 6, 7, 8, 9, 10, 11, 12, 13, 14, 15, 16] rfl rfl rfl (by decide +kernel) (by decide +kernel) (by decide +kernel) 0 rfl rfl rfl hl.1 rfl (Nat.le_of_ble_eq_true rfl) dL_law_587 (fun u_28 H locs hφ hP hD hS => ?_)
  obtain ⟨I_29, L_30, F_31, G_32⟩ := u_28
  have p_34 : (((I_29 0) : Int) = 1 ∧ (((0 ≤ z1 ∧ z1 ≤ 3) ∧ (0 ≤ z3 ∧ z3 ≤ 3) ∧ (0 ≤ z2 ∧ 0 ≤ z4 ∧ 0 ≤ z5)) ∧ (¬ gz (FR 2) z1 = -1 ∧ ¬ gz (FR 2) z3 = -1) ∧ gz (FR 1) z1 = gz (FR 1) z3 ∧ (z5 ≤ gz (FR 2) z1 - z2 ∧ z5 ≤ gz (FR 2) z3 - z4))) ∨ (((I_29 0) : Int) = 0 ∧ ¬ (((0 ≤ z1 ∧ z1 ≤ 3) ∧ (0 ≤ z3 ∧ z3 ≤ 3) ∧ (0 ≤ z2 ∧ 0 ≤ z4 ∧ 0 ≤ z5)) ∧ (¬ gz (FR 2) z1 = -1 ∧ ¬ gz (FR 2) z3 = -1) ∧ gz (FR 1) z1 = gz (FR 1) z3 ∧ (z5 ≤ gz (FR 2) z1 - z2 ∧ z5 ≤ gz (FR 2) z3 - z4))) := hφ
  obtain ⟨hP, hD⟩ := PD.by2 (is := [13, 0, 1, 14, 15, 16, 2, 3, 4, 5, 6, 7, 8, 9, 10, 11, 12]) (y := (GR k a (fun i => [(I_29 1), (IR 1), (IR 2), (IR 3), (IR 4), (IR 5), (IR 6), (IR 7), (IR 8), (IR 9), (IR 10), (IR 11), (IR 12), (IR 13), (IR 14), (IR 15), (IR 16), (IR 17)].getD i 0) LR FR (fun i => [(QR 0), (G_32 0)].getD i (fun _ => 0)) VR r)) ⟨hP, hD⟩ (by decide +kernel) rfl
  refine W.eq (g2 := F0 m 590 ls [.int (iZ (I_29 0)), .int (iZ (I_12 0))]) rfl ?_
  refine lv_icmp_eq (tgt := 2846) hx hb dL_law_590 (by decide) (fun _ => ?_) (fun c_35 => absurd ((zeq (x := iZ (I_12 0)) (y := iZ (I_29 0)) rfl rfl ⟨by omega, by omega⟩ ⟨by omega, by omega⟩).mpr (po_eq hrel p_17 p_34)) c_35)
  obtain ⟨hP, hD⟩ := PD.fr5 ⟨hP, hD⟩
  obtain ⟨hP, hD⟩ := PD.fr5 ⟨hP, hD⟩
  obtain ⟨hP, hD⟩ := PD.fr5 ⟨hP, hD⟩
  obtain ⟨hP, hD⟩ := PD.fr5 ⟨hP, hD⟩
  exact hk a (fun i => [(IA 0), (IA 1), (I_12 1), (IA 3), (IA 4), (IA 5), (IA 6), (IA 7), (IA 8), (IA 9), (IA 10), (IA 11), (IA 12), (IA 13), (IA 14), (IA 15), (IA 16), (IA 17), (IA 18)].getD i 0) LA FA QA VA IB LB FB (fun i => [(G_15 0), (G_15 1), (G_15 2), (G_15 3)].getD i (fun _ => 0)) VB IC LC FC QC VC ID LD FD QD VD (fun i => [(I_29 1), (IR 1), (IR 2), (IR 3), (IR 4), (IR 5), (IR 6), (IR 7), (IR 8), (IR 9), (IR 10), (IR 11), (IR 12), (IR 13), (IR 14), (IR 15), (IR 16), (IR 17)].getD i 0) LR FR (fun i => [(QR 0), (G_32 0)].getD i (fun _ => 0)) VR r H locs ls (show INV _ _ _ _ _ _ _ _ _ _ from ⟨hWI, hWI_0, hWI_1, hWI_2, hrd, htr0, htr1, htr2, htr3, hrgk, hrgt, hdrc, hev, hmk, hM, hMK, hTI, hFS, htd, hlt, rgH, rgS, rgY, hdr, hit, hmmk, heq, htq, hrel⟩) hRT hP hD hS (lv_sub hl [0, 1, 2, 3] rfl)
set_option maxHeartbeats 40000000 in
set_option maxRecDepth 100000 in
theorem law_c7 {p : Program} {e : Env} {s : State} {m : MethodId} {below : List Frame} {meth : Method} {c : Code} (l : Launch) {b L : Nat} {xs : Nat → Int32} {A : Nat → Prop} {D : va_G} {k : Nat → ClassId} {sa sv : Nat} {i : Int} (C : LFX p s m meth c b L xs A D k sa sv) (hi : 0 ≤ i ∧ i + 6 ≤ (L : Int)) (hk : LAT p l e s m below meth c b A D k 2846 i) : LAT p l e s m below meth c b A D k 595 i := by
  obtain ⟨hx, hb, hr, hml, hown, hts, hKK, hX, hbl, hbA, hA, hAf, hlocks, hSY, hRR, hL⟩ := id C
  intro a IA LA FA QA VA IB LB FB QB VB IC LC FC QC VC ID LD FD QD VD IR LR FR QR VR r H locs ls hI hRT hP hD hS hl
  have hK := hKK.1
  obtain ⟨hP, hD⟩ : PD D A ((GA k a IA LA FA QA VA r) ++ ((GB k a IB LB FB QB VB r) ++ ((GC k a IC LC FC QC VC r) ++ ((GD k a ID LD FD QD VD r) ++ ((GR k a IR LR FR QR VR r) ++ (r.tl)))))) H := ⟨hP, hD⟩
  obtain ⟨hWI, hWI_0, hWI_1, hWI_2, hrd, htr0, htr1, htr2, htr3, hrgk, hrgt, hdrc, hev, hmk, hM, hMK, hTI, hFS, htd, hlt, rgH, rgS, rgY, hdr, hit, hmmk, heq, htq, hrel⟩ := id hI
  obtain ⟨gw1, gw2, gw3, gw4, gw5, gw6, gw7, gw8, gw9, gw10, gw11⟩ := id hWI
  have hx0 := gw9
  have hYI := gw11
  obtain ⟨z1, hz1, hz1a, hz1b⟩ := i32_z (xs (iZ (i + 1)).toNatClampNeg)
  obtain ⟨z2, hz2, hz2a, hz2b⟩ := i32_z (xs (iZ (i + 2)).toNatClampNeg)
  obtain ⟨z3, hz3, hz3a, hz3b⟩ := i32_z (xs (iZ (i + 3)).toNatClampNeg)
  obtain ⟨z4, hz4, hz4a, hz4b⟩ := i32_z (xs (iZ (i + 4)).toNatClampNeg)
  obtain ⟨z5, hz5, hz5a, hz5b⟩ := i32_z (xs (iZ (i + 5)).toNatClampNeg)
  have hl : lv_has ls 4 [(3, .int (iZ i)), (2, .ref (a 106)), (1, .ref (a 0)), (0, .ref b)] := hl
  refine lv_aload_n hx hb dL_law_595 rfl (lv_at hl 2 rfl) ?_
  refine lv_aload_n hx hb dL_law_596 rfl (lv_at hl 3 rfl) ?_
  refine lv_iload_n hx hb dL_law_597 rfl (lv_at hl 0 rfl) ?_
  refine lv_iconst (v := iZ 1) hx hb dL_law_598 (by decide) ?_
  refine lv_iadd hx hb dL_law_599 ?_
  refine lv_topi (fun x_1 ex_1 => ?_)
  obtain rfl : x_1 = iZ (i + 1) := ex_1.trans (iZ_add i 1)
  refine va_sld hx hb hX hbl hbA hS (zin (e := (i + 1)) (n := L) ⟨by omega, by omega⟩ (by omega)) dL_law_600 ?_
  refine lv_topi (fun x_2 ex_2 => ?_)
  obtain rfl : x_2 = iZ z1 := ex_2.trans hz1
  refine lv_aload_n hx hb dL_law_601 rfl (lv_at hl 3 rfl) ?_
  refine lv_iload_n hx hb dL_law_602 rfl (lv_at hl 0 rfl) ?_
  refine lv_iconst (v := iZ 2) hx hb dL_law_603 (by decide) ?_
  refine lv_iadd hx hb dL_law_604 ?_
  refine lv_topi (fun x_3 ex_3 => ?_)
  obtain rfl : x_3 = iZ (i + 2) := ex_3.trans (iZ_add i 2)
  refine va_sld hx hb hX hbl hbA hS (zin (e := (i + 2)) (n := L) ⟨by omega, by omega⟩ (by omega)) dL_law_605 ?_
  refine lv_topi (fun x_4 ex_4 => ?_)
  obtain rfl : x_4 = iZ z2 := ex_4.trans hz2
  refine lv_aload_n hx hb dL_law_606 rfl (lv_at hl 3 rfl) ?_
  refine lv_iload_n hx hb dL_law_607 rfl (lv_at hl 0 rfl) ?_
  refine lv_iconst (v := iZ 3) hx hb dL_law_608 (by decide) ?_
  refine lv_iadd hx hb dL_law_609 ?_
  refine lv_topi (fun x_5 ex_5 => ?_)
  obtain rfl : x_5 = iZ (i + 3) := ex_5.trans (iZ_add i 3)
  refine va_sld hx hb hX hbl hbA hS (zin (e := (i + 3)) (n := L) ⟨by omega, by omega⟩ (by omega)) dL_law_610 ?_
  refine lv_topi (fun x_6 ex_6 => ?_)
  obtain rfl : x_6 = iZ z3 := ex_6.trans hz3
  refine lv_aload_n hx hb dL_law_611 rfl (lv_at hl 3 rfl) ?_
  refine lv_iload_n hx hb dL_law_612 rfl (lv_at hl 0 rfl) ?_
  refine lv_iconst (v := iZ 4) hx hb dL_law_613 (by decide) ?_
  refine lv_iadd hx hb dL_law_614 ?_
  refine lv_topi (fun x_7 ex_7 => ?_)
  obtain rfl : x_7 = iZ (i + 4) := ex_7.trans (iZ_add i 4)
  refine va_sld hx hb hX hbl hbA hS (zin (e := (i + 4)) (n := L) ⟨by omega, by omega⟩ (by omega)) dL_law_615 ?_
  refine lv_topi (fun x_8 ex_8 => ?_)
  obtain rfl : x_8 = iZ z4 := ex_8.trans hz4
  refine lv_aload_n hx hb dL_law_616 rfl (lv_at hl 3 rfl) ?_
  refine lv_iload_n hx hb dL_law_617 rfl (lv_at hl 0 rfl) ?_
  refine lv_iconst (v := iZ 5) hx hb dL_law_618 (by decide) ?_
  refine lv_iadd hx hb dL_law_619 ?_
  refine lv_topi (fun x_9 ex_9 => ?_)
  obtain rfl : x_9 = iZ (i + 5) := ex_9.trans (iZ_add i 5)
  refine va_sld hx hb hX hbl hbA hS (zin (e := (i + 5)) (n := L) ⟨by omega, by omega⟩ (by omega)) dL_law_620 ?_
  refine lv_topi (fun x_10 ex_10 => ?_)
  obtain rfl : x_10 = iZ z5 := ex_10.trans hz5
  obtain ⟨hP, hD⟩ := PD.fr3 ⟨hP, hD⟩
  obtain ⟨hP, hD⟩ := PD.swap ⟨hP, hD⟩
  obtain ⟨hP, hD⟩ := PD.sa2 ⟨hP, hD⟩
  refine CKV2 (As := [.int (iZ z1), .int (iZ z2), .int (iZ z3), .int (iZ z4), .int (iZ z5)]) (rest := []) (tl := (GB k a IB LB FB QB VB r) ++ ((GD k a ID LD FD QD VD r) ++ ((GR k a IR LR FR QR VR r) ++ (r.tl)))) hx hb hml hown hts hKK hP hD hS hA (p_feed l D k (a 0) (a 1) (a 2) (a 3) (a 4) (a 5) (a 6) (a 7) (a 8) (a 9) (a 10) (a 11) (IA 0) (IA 1) (IA 2) (LA 0) (LA 1) (a 98) (a 99) (IC 0) (IC 1) (IC 2) (IC 3) (IC 4) (IC 5) (IC 6) (IC 7) (IC 8) (LC 0) (FC 0) (QC 0) z1 z2 z3 z4 z5 ⟨by omega, by omega⟩) ci_X11_feed qm_L_49 ⟨Nat.le_of_ble_eq_true rfl, Nat.le_of_ble_eq_true rfl⟩ (lroom _) [0, 26, 27, 28] [1, 2, 3, 4, 5, 6, 7, 8, 9, 10, 11, 12, 13, 14, 15, 16, 17, 18, 19, 20, 21, 22, 23, 24, 25, 29, 30, 31, 32, 33, 34, 35, 36, 37, 38, 39, 40, 41, 42, 43, 44, 45, 46, 47] rfl rfl rfl (by decide +kernel) (by decide +kernel) (by decide +kernel) 0 rfl rfl rfl hl.1 rfl (Nat.le_of_ble_eq_true rfl) dL_law_621 (fun u_11 H locs hφ hP hD hS => ?_)
  obtain ⟨I_12, L_13, F_14, G_15⟩ := u_11
  have p_17 : ((IC 0) > 880 ∧ (I_12 0) = -1 ∧ (I_12 1) = (IC 0)) ∨ ((IC 0) ≤ 880 ∧ (I_12 0) = (IC 0) + 20 ∧ (I_12 1) = (IC 0) + 20) := hφ
  obtain ⟨hP, hD⟩ := PD.by2 (is := [44, 0, 1, 2, 3, 4, 5, 6, 7, 8, 9, 10, 11, 12, 13, 14, 15, 16, 17, 18, 19, 20, 21, 22, 23, 24, 45, 46, 47, 25, 26, 27, 28, 29, 30, 31, 32, 33, 34, 35, 36, 37, 38, 39, 40, 41, 42, 43]) (y := (GA k a IA LA FA QA VA r) ++ ((GC k a (fun i => [(I_12 1), (IC 1), (IC 2), (IC 3), (IC 4), (IC 5), (IC 6), (IC 7), (IC 8), (IC 9), (IC 10), (IC 11), (IC 12), (IC 13), (IC 14), (IC 15), (IC 16), (IC 17), (IC 18), (IC 19)].getD i 0) LC (fun i => [(F_14 0), (FC 1), (FC 2), (FC 3), (FC 4), (FC 5), (FC 6), (FC 7), (FC 8), (FC 9), (FC 10), (FC 11), (FC 12)].getD i (fun _ => 0)) QC VC r))) ⟨hP, hD⟩ (by decide +kernel) rfl
  obtain ⟨hP, hD⟩ := PD.as2 ⟨hP, hD⟩
  refine W.eq (g2 := F0 m 624 ls [.int (iZ (I_12 0))]) rfl ?_
  refine lv_pop hx hb dL_law_624 rfl ?_
  refine lv_aload_n hx hb dL_law_625 rfl (lv_at hl 1 rfl) ?_
  refine lv_aload_n hx hb dL_law_626 rfl (lv_at hl 3 rfl) ?_
  refine lv_iload_n hx hb dL_law_627 rfl (lv_at hl 0 rfl) ?_
  refine lv_iconst (v := iZ 1) hx hb dL_law_628 (by decide) ?_
  refine lv_iadd hx hb dL_law_629 ?_
  refine lv_topi (fun x_18 ex_18 => ?_)
  obtain rfl : x_18 = iZ (i + 1) := ex_18.trans (iZ_add i 1)
  refine va_sld hx hb hX hbl hbA hS (zin (e := (i + 1)) (n := L) ⟨by omega, by omega⟩ (by omega)) dL_law_630 ?_
  refine lv_topi (fun x_19 ex_19 => ?_)
  obtain rfl : x_19 = iZ z1 := ex_19.trans hz1
  refine lv_aload_n hx hb dL_law_631 rfl (lv_at hl 3 rfl) ?_
  refine lv_iload_n hx hb dL_law_632 rfl (lv_at hl 0 rfl) ?_
  refine lv_iconst (v := iZ 2) hx hb dL_law_633 (by decide) ?_
  refine lv_iadd hx hb dL_law_634 ?_
  refine lv_topi (fun x_20 ex_20 => ?_)
  obtain rfl : x_20 = iZ (i + 2) := ex_20.trans (iZ_add i 2)
  refine va_sld hx hb hX hbl hbA hS (zin (e := (i + 2)) (n := L) ⟨by omega, by omega⟩ (by omega)) dL_law_635 ?_
  refine lv_topi (fun x_21 ex_21 => ?_)
  obtain rfl : x_21 = iZ z2 := ex_21.trans hz2
  refine lv_aload_n hx hb dL_law_636 rfl (lv_at hl 3 rfl) ?_
  refine lv_iload_n hx hb dL_law_637 rfl (lv_at hl 0 rfl) ?_
  refine lv_iconst (v := iZ 3) hx hb dL_law_638 (by decide) ?_
  refine lv_iadd hx hb dL_law_639 ?_
  refine lv_topi (fun x_22 ex_22 => ?_)
  obtain rfl : x_22 = iZ (i + 3) := ex_22.trans (iZ_add i 3)
  refine va_sld hx hb hX hbl hbA hS (zin (e := (i + 3)) (n := L) ⟨by omega, by omega⟩ (by omega)) dL_law_640 ?_
  refine lv_topi (fun x_23 ex_23 => ?_)
  obtain rfl : x_23 = iZ z3 := ex_23.trans hz3
  refine lv_aload_n hx hb dL_law_641 rfl (lv_at hl 3 rfl) ?_
  refine lv_iload_n hx hb dL_law_642 rfl (lv_at hl 0 rfl) ?_
  refine lv_iconst (v := iZ 4) hx hb dL_law_643 (by decide) ?_
  refine lv_iadd hx hb dL_law_644 ?_
  refine lv_topi (fun x_24 ex_24 => ?_)
  obtain rfl : x_24 = iZ (i + 4) := ex_24.trans (iZ_add i 4)
  refine va_sld hx hb hX hbl hbA hS (zin (e := (i + 4)) (n := L) ⟨by omega, by omega⟩ (by omega)) dL_law_645 ?_
  refine lv_topi (fun x_25 ex_25 => ?_)
  obtain rfl : x_25 = iZ z4 := ex_25.trans hz4
  refine lv_aload_n hx hb dL_law_646 rfl (lv_at hl 3 rfl) ?_
  refine lv_iload_n hx hb dL_law_647 rfl (lv_at hl 0 rfl) ?_
  refine lv_iconst (v := iZ 5) hx hb dL_law_648 (by decide) ?_
  refine lv_iadd hx hb dL_law_649 ?_
  refine lv_topi (fun x_26 ex_26 => ?_)
  obtain rfl : x_26 = iZ (i + 5) := ex_26.trans (iZ_add i 5)
  refine va_sld hx hb hX hbl hbA hS (zin (e := (i + 5)) (n := L) ⟨by omega, by omega⟩ (by omega)) dL_law_650 ?_
  refine lv_topi (fun x_27 ex_27 => ?_)
  obtain rfl : x_27 = iZ z5 := ex_27.trans hz5
  obtain ⟨hP, hD⟩ := PD.fr5 ⟨hP, hD⟩
  refine CKV2 (As := [.int (iZ z1), .int (iZ z2), .int (iZ z3), .int (iZ z4), .int (iZ z5)]) (rest := []) (tl := (GA k a IA LA FA QA VA r) ++ ((GC k a (fun i => [(I_12 1), (IC 1), (IC 2), (IC 3), (IC 4), (IC 5), (IC 6), (IC 7), (IC 8), (IC 9), (IC 10), (IC 11), (IC 12), (IC 13), (IC 14), (IC 15), (IC 16), (IC 17), (IC 18), (IC 19)].getD i 0) LC (fun i => [(F_14 0), (FC 1), (FC 2), (FC 3), (FC 4), (FC 5), (FC 6), (FC 7), (FC 8), (FC 9), (FC 10), (FC 11), (FC 12)].getD i (fun _ => 0)) QC VC r) ++ ((GB k a IB LB FB QB VB r) ++ ((GD k a ID LD FD QD VD r) ++ (r.tl))))) hx hb hml hown hts hKK hP hD hS hA (q_feed l D k (a 106) (a 107) (a 108) (a 109) (a 110) (a 111) (a 112) (a 113) (a 114) (a 115) (a 116) (a 117) (a 118) (a 119) (a 120) (a 121) (a 122) (IR 0) (IR 1) (IR 2) (IR 3) (IR 4) (IR 5) (IR 6) (IR 7) (IR 8) (IR 9) (IR 10) (IR 11) (IR 12) (IR 13) (IR 14) (IR 15) (IR 16) (IR 17) (LR 0) (LR 1) (FR 3) z1 z2 z3 z4 z5 ⟨by omega, by omega⟩) ci_X12_feed qm_L_53 ⟨Nat.le_of_ble_eq_true rfl, Nat.le_of_ble_eq_true rfl⟩ (lroom _) [0, 6] [1, 2, 3, 4, 5, 7, 8, 9, 10, 11, 12, 13, 14, 15, 16] rfl rfl rfl (by decide +kernel) (by decide +kernel) (by decide +kernel) 0 rfl rfl rfl hl.1 rfl (Nat.le_of_ble_eq_true rfl) dL_law_651 (fun u_28 H locs hφ hP hD hS => ?_)
  obtain ⟨I_29, L_30, F_31, G_32⟩ := u_28
  have p_34 : ((IR 1) > 880 ∧ (I_29 0) = -1 ∧ (I_29 1) = (IR 1)) ∨ ((IR 1) ≤ 880 ∧ (I_29 0) = (IR 1) + 20 ∧ (I_29 1) = (IR 1) + 20) := hφ
  obtain ⟨hP, hD⟩ := PD.by2 (is := [15, 0, 1, 2, 3, 4, 16, 5, 6, 7, 8, 9, 10, 11, 12, 13, 14]) (y := (GR k a (fun i => [(IR 0), (I_29 1), (IR 2), (IR 3), (IR 4), (IR 5), (IR 6), (IR 7), (IR 8), (IR 9), (IR 10), (IR 11), (IR 12), (IR 13), (IR 14), (IR 15), (IR 16), (IR 17)].getD i 0) LR (fun i => [(FR 0), (FR 1), (FR 2), (F_31 0), (FR 4), (FR 5), (FR 6), (FR 7), (FR 8), (FR 9), (FR 10), (FR 11), (FR 12), (FR 13)].getD i (fun _ => 0)) QR VR r)) ⟨hP, hD⟩ (by decide +kernel) rfl
  refine W.eq (g2 := F0 m 654 ls [.int (iZ (I_29 0))]) rfl ?_
  refine lv_pop hx hb dL_law_654 rfl ?_
  refine lv_goto (tgt := 2846) hx hb dL_law_655 (by decide) ?_
  obtain ⟨hP, hD⟩ := PD.fr5 ⟨hP, hD⟩
  obtain ⟨hP, hD⟩ := PD.fr4 ⟨hP, hD⟩
  obtain ⟨hP, hD⟩ := PD.fr5 ⟨hP, hD⟩
  obtain ⟨hP, hD⟩ := PD.fr5 ⟨hP, hD⟩
  exact hk a IA LA FA QA VA IB LB FB QB VB (fun i => [(I_12 1), (IC 1), (IC 2), (IC 3), (IC 4), (IC 5), (IC 6), (IC 7), (IC 8), (IC 9), (IC 10), (IC 11), (IC 12), (IC 13), (IC 14), (IC 15), (IC 16), (IC 17), (IC 18), (IC 19)].getD i 0) LC (fun i => [(F_14 0), (FC 1), (FC 2), (FC 3), (FC 4), (FC 5), (FC 6), (FC 7), (FC 8), (FC 9), (FC 10), (FC 11), (FC 12)].getD i (fun _ => 0)) QC VC ID LD FD QD VD (fun i => [(IR 0), (I_29 1), (IR 2), (IR 3), (IR 4), (IR 5), (IR 6), (IR 7), (IR 8), (IR 9), (IR 10), (IR 11), (IR 12), (IR 13), (IR 14), (IR 15), (IR 16), (IR 17)].getD i 0) LR (fun i => [(FR 0), (FR 1), (FR 2), (F_31 0), (FR 4), (FR 5), (FR 6), (FR 7), (FR 8), (FR 9), (FR 10), (FR 11), (FR 12), (FR 13)].getD i (fun _ => 0)) QR VR r H locs ls (show INV _ _ _ _ _ _ _ _ _ _ from ⟨hWI, hWI_0, hWI_1, hWI_2, (show (0 ≤ (I_12 1) ∧ (I_12 1) ≤ 900) ∧ (0 ≤ (IC 1) ∧ (IC 1) ≤ 900) ∧ (0 ≤ (IC 2) ∧ (IC 2) ≤ (IC 3)) ∧ ((IC 3) ≤ (IC 1)) ∧ (0 ≤ (IC 4) ∧ (IC 4) ≤ 4) ∧ (-2147483648 ≤ (IC 5) ∧ (IC 5) < 2147483648) ∧ (-1 ≤ (IC 6) ∧ (IC 6) ≤ 24) from (by first | with_reducible assumption | exact ⟨⟨by omega, by omega⟩, ⟨by omega, by omega⟩, ⟨by omega, by omega⟩, by omega, ⟨by omega, by omega⟩, ⟨by omega, by omega⟩, by omega, by omega⟩)), htr0, htr1, htr2, htr3, hrgk, hrgt, hdrc, hev, hmk, hM, hMK, hTI, hFS, (show 0 ≤ (I_29 1) ∧ (I_29 1) ≤ 900 from (by omega)), hlt, rgH, rgS, rgY, hdr, hit, hmmk, heq, (show (I_12 1) = (I_29 1) from (by omega)), hrel⟩) hRT hP hD hS (lv_sub hl [0, 1, 2, 3] rfl)
