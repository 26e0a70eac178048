section
set_option maxHeartbeats 4000000 in
set_option maxRecDepth 100000 in
theorem y_anIce (l : Launch) (D : va_G) (k : Nat → ClassId) (sa sv : Nat) (hm : Nat) (Ma : Nat) (Mn : Nat) (Ms : Nat) (My : Nat) (Mt : Nat) (Mp : Nat) (Mx : Nat) (Mo : Nat) (Mk : Nat) (Ml : Nat) (Mb : Nat) (Mh : Nat) (Mc : Nat) (Mz : Nat) (Mr : Nat) (Mq : Nat) (Mst : Int) (Mtd : Int) (Msz : Int) (Mtk : Int) (Mfr : Int) (Men : Int) (Mva : Int) (Mfk : Int) (Mfp : Int) (Mfs : Int) (Mse : Int) (Mlt : Int) (Mdp : Int) (Mct : Int) (Mdr : Int) (Mrs : Int) (Mit : Int) (Mmk : Int) (Mtp : Int64) (Mbt : Int64) (Xf : Nat → Int32) (Af : Nat → Int32) (Nf : Nat → Int64) (cu : Int) (N : Int → Int) (F : Int → Int) (G : Int → Int) (hTI : (0 ≤ (Mfr : Int) ∧ (Mfr : Int) ≤ Men) ∧ ((Men : Int) ≤ Msz ∧ (Msz : Int) ≤ 900) ∧ (0 ≤ (Mtk : Int) ∧ (Mtk : Int) ≤ 4) ∧ ((Mtk : Int) ≤ 4 * (Men - Mfr)) ∧ (-1 ≤ (Mva : Int) ∧ (Mva : Int) ≤ 100000)) (hf0 : Mfs = 0) (hrf : RFX (tX Xf Msz) cu Mfr Men Mtk Mva) (hNZ : NSZ Af) (htw : Mtk = 2) (hms : MSX Af (gz Af 3560) (gz Af 3561) (gz Af 3562) (gz Af 3678) F G) (hns : xNr Nf 24 N (gz Af 3560)) : SD (σ := ((Int × Int × Int × Int × Int × Int × Int) × (Int64) × ((Nat → Int32)) × ((Nat → Int64)))) sa sv l yX12_anIce cX12_anIce 3 (some .boolean) 7 D k [.ref hm] [(hm, .inr (12, [.ref Ma, .ref Mn, .int (iZ Mst), .long Mtp, .long Mbt, .ref Ms, .ref My, .ref Mt, .ref Mp, .ref Mx, .int (iZ Mtd), .int (iZ Msz), .int (iZ Mtk), .int (iZ Mfr), .int (iZ Men), .int (iZ Mva), .int (iZ Mfk), .int (iZ Mfp), .int (iZ Mfs), .int (iZ Mse), .int (iZ Mlt), .ref Mo, .int (iZ Mdp), .int (iZ Mct), .ref Mk, .ref Ml, .ref Mb, .ref Mh, .ref Mc, .int (iZ Mdr), .int (iZ Mrs), .ref Mz, .ref Mr, .ref Mq, .int (iZ Mit), .int (iZ Mmk)])), (Mx, .inl (k 0, 900, .inl Xf)), (Ma, .inl (k 1, 5340, .inl Af)), (Mn, .inl (k 2, 36, .inr (.inl Nf)))] (fun u => some (.int (iZ u.1.1))) (fun u => ((0 ≤ (u.1.2.2.1 : Int) ∧ (u.1.2.2.1 : Int) ≤ u.1.2.2.2.1) ∧ ((u.1.2.2.2.1 : Int) ≤ Msz ∧ (Msz : Int) ≤ 900) ∧ (0 ≤ (u.1.2.1 : Int) ∧ (u.1.2.1 : Int) ≤ 4) ∧ ((u.1.2.1 : Int) ≤ 4 * (u.1.2.2.2.1 - u.1.2.2.1)) ∧ (-1 ≤ (u.1.2.2.2.2.1 : Int) ∧ (u.1.2.2.2.2.1 : Int) ≤ 100000)) ∧ (0 ≤ (u.1.2.2.2.2.2.1 : Int) ∧ (u.1.2.2.2.2.2.1 : Int) ≤ 9) ∧ (KP u.2.2.1 Af) ∧ (((u.1.1 : Int) = 1 ∧ ∃ (q9 : Int) (G9 : Int → Int), xIce (tX Xf Msz) N (gz Af 3560) (gz Af 3561) G cu = (xBn (xTs (tX Xf Msz) 59 q9) fun r9 => .inr (r9, G9)) ∧ cu < q9 ∧ RFX (tX Xf Msz) q9 u.1.2.2.1 u.1.2.2.2.1 u.1.2.1 u.1.2.2.2.2.1 ∧ MSX u.2.2.1 (gz u.2.2.1 3560) (gz u.2.2.1 3561) (gz u.2.2.1 3562) (gz u.2.2.1 3678) F G9 ∧ (gz u.2.2.1 3560 = gz Af 3560 ∧ gz u.2.2.1 3561 = gz Af 3561 + 1 ∧ gz u.2.2.1 3562 = gz Af 3562 ∧ gz u.2.2.1 3678 = gz Af 3678) ∧ NSZ u.2.2.1 ∧ (u.1.2.2.2.2.2.1 : Int) = 0 ∧ u.1.2.2.2.2.2.2 = Mfp) ∨ ((u.1.1 : Int) = 0 ∧ xIce (tX Xf Msz) N (gz Af 3560) (gz Af 3561) G cu = .inl (u.1.2.2.2.2.2.1, u.1.2.2.2.2.2.2) ∧ 1 ≤ (u.1.2.2.2.2.2.1 : Int))) ∧ (u.2.2.2 = Nf)) (fun u => [(hm, .inr (12, [.ref Ma, .ref Mn, .int (iZ Mst), .long Mtp, .long Mbt, .ref Ms, .ref My, .ref Mt, .ref Mp, .ref Mx, .int (iZ Mtd), .int (iZ Msz), .int (iZ u.1.2.1), .int (iZ u.1.2.2.1), .int (iZ u.1.2.2.2.1), .int (iZ u.1.2.2.2.2.1), .int (iZ Mfk), .int (iZ u.1.2.2.2.2.2.2), .int (iZ u.1.2.2.2.2.2.1), .int (iZ Mse), .int (iZ Mlt), .ref Mo, .int (iZ Mdp), .int (iZ Mct), .ref Mk, .ref Ml, .ref Mb, .ref Mh, .ref Mc, .int (iZ Mdr), .int (iZ Mrs), .ref Mz, .ref Mr, .ref Mq, .int (iZ Mit), .int (iZ Mmk)])), (Mx, .inl (k 0, 900, .inl Xf)), (Ma, .inl (k 1, 5340, .inl u.2.2.1)), (Mn, .inl (k 2, 36, .inr (.inl u.2.2.2)))]) := by
  refine MSS (by decide) (Nat.le_of_ble_eq_true rfl) (fun p e s m below meth c ls A hx hb hml hr hlocks hin hts hown hKK hP hD hS hA hSY hRR hl => ?_)
  have hK := hKK.1
  have hl : lv_has ls 3 [(0, .ref hm)] := hl
  obtain ⟨⟨ar_1, br_1⟩, cr_1, dr_1, er_1, gr_1, hr_1⟩ := id hrf
  have kr_1 := tk_1 dr_1 (xKd_rg _ _)
  have wr_1 := xKw_rg (tX Xf Msz) cu
  replace kr_1 : Unit → _ := fun _ => kr_1
  replace er_1 : Unit → _ := fun _ => er_1
  replace gr_1 : Unit → _ := fun _ => gr_1
  replace hr_1 : Unit → _ := fun _ => hr_1
  obtain ⟨nz0, nz1, nz3, nz4, nz5, nzS⟩ := id hNZ
  refine lv_sipush (v := iZ 3606) hx hb dX12_anIce_0 sip_3606 ?_
  refine lv_iconst (v := iZ 4) hx hb dX12_anIce_3 rfl ?_
  refine lv_aload_n hx hb dX12_anIce_4 rfl (lv_at hl 0 rfl) ?_
  refine va_get (D := D) (ci := 12) (v := .ref Ma) (C := RX12) (T := TX12) (N := 36) hx hb hts iX12 hown hK hP 0 rfl rfl 0 (bl rfl) (hts _ qf_X12_7) (fun _ h => h) rfl dX12_anIce_5 ?_
  refine lv_sipush (v := iZ 3561) hx hb dX12_anIce_8 sip_3561 ?_
  refine va_iald hx hb hK hP 2 1 rfl rfl (zin (e := 3561) (n := 5340) ⟨by omega, by omega⟩ (bl rfl)) dX12_anIce_11 ?_
  refine lv_topi (fun x_2 ex_2 => ?_)
  obtain rfl : x_2 = iZ (gz Af 3561) := ex_2.trans (gz_eq ⟨by omega, by omega⟩)
  have h_3 := gz_rg Af 3561
  refine lv_imul hx hb dX12_anIce_12 ?_
  refine lv_topi (fun x_4 ex_4 => ?_)
  obtain rfl : x_4 = iZ (4 * (gz Af 3561)) := ex_4.trans (iZ_mul 4 (gz Af 3561))
  refine lv_iadd hx hb dX12_anIce_13 ?_
  refine lv_topi (fun x_5 ex_5 => ?_)
  obtain rfl : x_5 = iZ (3606 + (4 * (gz Af 3561))) := ex_5.trans (iZ_add 3606 (4 * (gz Af 3561)))
  refine lv_istore_n (lv' := [(1, .int (iZ (3606 + (4 * (gz Af 3561))))), (0, .ref hm)]) hx hb dX12_anIce_14 rfl hl (bl rfl) rfl (fun ls hl => ?_)
  refine lv_aload_n hx hb dX12_anIce_15 rfl (lv_at hl 1 rfl) ?_
  refine va_get (D := D) (ci := 12) (v := .ref Ma) (C := RX12) (T := TX12) (N := 36) hx hb hts iX12 hown hK hP 0 rfl rfl 0 (bl rfl) (hts _ qf_X12_7) (fun _ h => h) rfl dX12_anIce_16 ?_
  refine lv_sipush (v := iZ 3560) hx hb dX12_anIce_19 sip_3560 ?_
  refine va_iald hx hb hK hP 2 1 rfl rfl (zin (e := 3560) (n := 5340) ⟨by omega, by omega⟩ (bl rfl)) dX12_anIce_22 ?_
  refine lv_topi (fun x_6 ex_6 => ?_)
  obtain rfl : x_6 = iZ (gz Af 3560) := ex_6.trans (gz_eq ⟨by omega, by omega⟩)
  have h_7 := gz_rg Af 3560
  refine lv_istore_n (lv' := [(2, .int (iZ (gz Af 3560))), (1, .int (iZ (3606 + (4 * (gz Af 3561))))), (0, .ref hm)]) hx hb dX12_anIce_23 rfl hl (bl rfl) rfl (fun ls hl => ?_)
  refine lv_aload_n hx hb dX12_anIce_24 rfl (lv_at hl 2 rfl) ?_
  refine va_get (D := D) (ci := 12) (v := .ref Ma) (C := RX12) (T := TX12) (N := 36) hx hb hts iX12 hown hK hP 0 rfl rfl 0 (bl rfl) (hts _ qf_X12_7) (fun _ h => h) rfl dX12_anIce_25 ?_
  refine lv_sipush (v := iZ 3561) hx hb dX12_anIce_28 sip_3561 ?_
  refine va_iald hx hb hK hP 2 1 rfl rfl (zin (e := 3561) (n := 5340) ⟨by omega, by omega⟩ (bl rfl)) dX12_anIce_31 ?_
  refine lv_topi (fun x_8 ex_8 => ?_)
  obtain rfl : x_8 = iZ (gz Af 3561) := ex_8.trans (gz_eq ⟨by omega, by omega⟩)
  have h_9 := gz_rg Af 3561
  refine lv_bipush (v := iZ 8) hx hb dX12_anIce_32 bip_8 ?_
  refine lv_icmp_ne (tgt := 44) hx hb dX12_anIce_34 rfl (fun c_10 => ?_) (fun c_10 => ?_)
  ·
    have c_10 := mt (zeq (x := iZ (gz Af 3561)) (y := iZ 8) rfl rfl (gz_rg Af 3561) wn_8).mpr c_10
    refine lv_aload_n hx hb dX12_anIce_44 rfl (lv_at hl 2 rfl) ?_
    refine CWV (As := []) (rest := []) (wc := _) (wr := [(Ma, .inl (k 1, 5340, .inl Af)), (Mn, .inl (k 2, 36, .inr (.inl Nf)))]) hx hb hml hown hts hKK hP hD hS hA (y_onward l D k hm Ma Mn Ms My Mt Mp Mx Mo Mk Ml Mb Mh Mc Mz Mr Mq Mst Mtd Msz Mtk Mfr Men Mva Mfk Mfp Mfs Mse Mlt Mdp Mct Mdr Mrs Mit Mmk Mtp Mbt Xf ⟨⟨by omega, by omega⟩, by omega⟩) ci_X12_onward qm_X12_158 ⟨Nat.le_of_ble_eq_true rfl, Nat.le_of_ble_eq_true rfl⟩ ⟨Nat.le_of_ble_eq_true rfl, Nat.le_of_ble_eq_true rfl⟩ [0, 1] [2, 3] rfl rfl rfl rfl rfl (dj rfl) 0 rfl rfl rfl hl.1 rfl (Nat.le_of_ble_eq_true rfl) dX12_anIce_45 (fun u_11 H locs hφ hP hD hS => ?_)
    obtain ⟨p_12, p_13, p_14⟩ : (RFX (tX Xf Msz) Men u_11.1.2.2.1 u_11.1.2.2.2.1 u_11.1.2.1 u_11.1.2.2.2.2) ∧ ((0 ≤ (u_11.1.2.2.1 : Int) ∧ (u_11.1.2.2.1 : Int) ≤ u_11.1.2.2.2.1) ∧ ((u_11.1.2.2.2.1 : Int) ≤ Msz ∧ (Msz : Int) ≤ 900) ∧ (0 ≤ (u_11.1.2.1 : Int) ∧ (u_11.1.2.1 : Int) ≤ 4) ∧ ((u_11.1.2.1 : Int) ≤ 4 * (u_11.1.2.2.2.1 - u_11.1.2.2.1)) ∧ (-1 ≤ (u_11.1.2.2.2.2 : Int) ∧ (u_11.1.2.2.2.2 : Int) ≤ 100000)) ∧ (Men ≤ u_11.1.2.2.1) := hφ
    have rx_15 := RFX.nx hrf p_12
    obtain ⟨⟨ar_16, br_16⟩, cr_16, dr_16, er_16, gr_16, hr_16⟩ := id rx_15
    have kr_16 := tk_1 dr_16 (xKd_rg _ _)
    have wr_16 := xKw_rg (tX Xf Msz) (xEn (tX Xf Msz) cu)
    replace kr_16 : Unit → _ := fun _ => kr_16
    replace er_16 : Unit → _ := fun _ => er_16
    replace gr_16 : Unit → _ := fun _ => gr_16
    replace hr_16 : Unit → _ := fun _ => hr_16
    refine W.eq (g2 := F0 m 48 ls []) rfl ?_
    refine lv_aload_n hx hb dX12_anIce_48 rfl (lv_at hl 2 rfl) ?_
    refine lv_bipush (v := iZ 24) hx hb dX12_anIce_49 bip_24 ?_
    refine lv_iload_n hx hb dX12_anIce_51 rfl (lv_at hl 0 rfl) ?_
    refine lv_iload_n hx hb dX12_anIce_52 rfl (lv_at hl 1 rfl) ?_
    refine CSV (As := [.int (iZ 24), .int (iZ (gz Af 3560)), .int (iZ (3606 + (4 * (gz Af 3561))))]) (rest := []) (wc := _) (wr := []) hx hb hml hown hts hKK hP hD hS hA hSY hRR (y_oldOne l D k sa sv hm Ma Mn Ms My Mt Mp Mx Mo Mk Ml Mb Mh Mc Mz Mr Mq Mst Mtd Msz u_11.1.2.1 u_11.1.2.2.1 u_11.1.2.2.2.1 u_11.1.2.2.2.2 Mfk Mfp Mfs Mse Mlt Mdp Mct Mdr Mrs Mit Mmk Mtp Mbt Xf Af Nf 24 (gz Af 3560) (3606 + (4 * (gz Af 3561))) (xEn (tX Xf Msz) cu) N (by first | with_reducible assumption | exact (by first | with_reducible assumption | exact ⟨⟨by omega, by omega⟩, ⟨by omega, by omega⟩, ⟨by omega, by omega⟩, by omega, by omega, by omega⟩)) (by omega) rx_15 ⟨by omega, by omega⟩ ⟨by omega, by omega⟩ ⟨by omega, by omega⟩ hns) ci_X12_oldOne qm_X12_195 ⟨Nat.le_of_ble_eq_true rfl, Nat.le_of_ble_eq_true rfl⟩ ⟨Nat.le_of_ble_eq_true rfl, Nat.le_of_ble_eq_true rfl⟩ [2, 3, 0, 1] [] rfl rfl rfl rfl rfl (dj rfl) 0 rfl rfl rfl hl.1 rfl (Nat.le_of_ble_eq_true rfl) dX12_anIce_53 (fun u_17 H locs hφ hP hD hS => ?_)
    obtain ⟨p_18, p_19, p_20, p_21⟩ : ((0 ≤ (u_17.1.2.2.1 : Int) ∧ (u_17.1.2.2.1 : Int) ≤ u_17.1.2.2.2.1) ∧ ((u_17.1.2.2.2.1 : Int) ≤ Msz ∧ (Msz : Int) ≤ 900) ∧ (0 ≤ (u_17.1.2.1 : Int) ∧ (u_17.1.2.1 : Int) ≤ 4) ∧ ((u_17.1.2.1 : Int) ≤ 4 * (u_17.1.2.2.2.1 - u_17.1.2.2.1)) ∧ (-1 ≤ (u_17.1.2.2.2.2.1 : Int) ∧ (u_17.1.2.2.2.2.1 : Int) ≤ 100000)) ∧ (0 ≤ (u_17.1.2.2.2.2.2.1 : Int) ∧ (u_17.1.2.2.2.2.2.1 : Int) ≤ 9) ∧ (((u_17.1.1 : Int) = 1 ∧ ∃ (q9 v9 : Int), xTr (tX Xf Msz) N (gz Af 3560) (-1) (xEn (tX Xf Msz) cu) = .inr (q9, v9) ∧ (xEn (tX Xf Msz) cu) < q9 ∧ RFX (tX Xf Msz) q9 u_17.1.2.2.1 u_17.1.2.2.2.1 u_17.1.2.1 u_17.1.2.2.2.2.1 ∧ (0 ≤ v9 ∧ v9 < (gz Af 3560)) ∧ u_17.2.2.1 = upd Af (iZ (3606 + (4 * (gz Af 3561)))).toNatClampNeg (iZ v9) ∧ (u_17.1.2.2.2.2.2.1 : Int) = 0 ∧ u_17.1.2.2.2.2.2.2 = Mfp) ∨ ((u_17.1.1 : Int) = 0 ∧ xTr (tX Xf Msz) N (gz Af 3560) (-1) (xEn (tX Xf Msz) cu) = .inl (u_17.1.2.2.2.2.2.1, u_17.1.2.2.2.2.2.2) ∧ 1 ≤ (u_17.1.2.2.2.2.2.1 : Int))) ∧ ((u_17.1.1 : Int) = 0 → KP u_17.2.2.1 Af) := hφ
    refine W.eq (g2 := F0 m 56 ls [.int (iZ u_17.1.1)]) rfl ?_
    rcases p_20 with ⟨qt_22, cut_22, yt_22, st_22, lt_22, xt_22, rt_22, ht_22, ut_22, vt_22⟩ | ⟨qt_22, st_22, bt_22⟩
    ·
      rw [qt_22]
      obtain ⟨⟨ar_23, br_23⟩, cr_23, dr_23, er_23, gr_23, hr_23⟩ := id xt_22
      have kr_23 := tk_1 dr_23 (xKd_rg _ _)
      have wr_23 := xKw_rg (tX Xf Msz) cut_22
      replace kr_23 : Unit → _ := fun _ => kr_23
      replace er_23 : Unit → _ := fun _ => er_23
      replace gr_23 : Unit → _ := fun _ => gr_23
      replace hr_23 : Unit → _ := fun _ => hr_23
      clear p_21
      have kp_24 := KP.up ht_22 ⟨by omega, by omega⟩ ⟨by omega, by omega⟩
      have ns_25 := NSZ.far hNZ ht_22 (Or.inl ⟨by omega, by omega⟩) ⟨by omega, by omega⟩
      have ms_26 := MSX.ic hms ht_22 (by omega) (by omega) (by omega)
      have q0gv_27 : gz u_17.2.2.1 3560 = gz Af 3560 := by have c9 := gz_upc (j := 3560) ht_22 ⟨by omega, by omega⟩ ⟨by omega, by omega⟩ (by omega); omega
      have q1gv_27 : gz u_17.2.2.1 3561 = gz Af 3561 := by have c9 := gz_upc (j := 3561) ht_22 ⟨by omega, by omega⟩ ⟨by omega, by omega⟩ (by omega); omega
      have v0gv_27 : gz u_17.2.2.1 (3606 + (4 * (gz Af 3561))) = yt_22 := by have c9 := gz_upc (j := (3606 + (4 * (gz Af 3561)))) ht_22 ⟨by omega, by omega⟩ ⟨by omega, by omega⟩ (by omega); omega
      obtain ⟨z0gv_27, z1gv_27, z3gv_27, z4gv_27, z5gv_27, zSgv_27⟩ := id ns_25
      refine lv_if_ne (tgt := 61) hx hb dX12_anIce_56 rfl (fun _ => ?_) (fun c => absurd c (by decide))
      refine lv_aload_n hx hb dX12_anIce_61 rfl (lv_at hl 2 rfl) ?_
      refine va_ldcS hx hb hown hRR dX12_anIce_62 ?_
      refine CSV (As := [.ref sa]) (rest := []) (wc := _) (wr := [(Ma, .inl (k 1, 5340, .inl u_17.2.2.1)), (Mn, .inl (k 2, 36, .inr (.inl Nf)))]) hx hb hml hown hts hKK hP hD hS hA hSY hRR (y_isName l D k sa sv ([.ref Ma, .ref Mn, .int (iZ Mst), .long Mtp, .long Mbt, .ref Ms, .ref My, .ref Mt, .ref Mp, .ref Mx, .int (iZ Mtd), .int (iZ Msz), .int (iZ u_17.1.2.1), .int (iZ u_17.1.2.2.1), .int (iZ u_17.1.2.2.2.1), .int (iZ u_17.1.2.2.2.2.1), .int (iZ Mfk), .int (iZ u_17.1.2.2.2.2.2.2), .int (iZ u_17.1.2.2.2.2.2.1), .int (iZ Mse), .int (iZ Mlt), .ref Mo, .int (iZ Mdp), .int (iZ Mct), .ref Mk, .ref Ml, .ref Mb, .ref Mh, .ref Mc, .int (iZ Mdr), .int (iZ Mrs), .ref Mz, .ref Mr, .ref Mq, .int (iZ Mit), .int (iZ Mmk)]) hm Mx Msz u_17.1.2.1 u_17.1.2.2.1 u_17.1.2.2.2.1 Xf cut_22 rfl rfl rfl rfl rfl ⟨⟨⟨by omega, by omega⟩, by omega, by omega⟩, by omega, by omega⟩ ⟨⟨br_23, cr_23⟩, dr_23, gr_23 ()⟩) ci_X12_isName qm_X12_177 ⟨Nat.le_of_ble_eq_true rfl, Nat.le_of_ble_eq_true rfl⟩ ⟨Nat.le_of_ble_eq_true rfl, Nat.le_of_ble_eq_true rfl⟩ [0, 1] [2, 3] rfl rfl rfl rfl rfl (dj rfl) 0 rfl rfl rfl hl.1 rfl (Nat.le_of_ble_eq_true rfl) dX12_anIce_64 (fun u_29 H locs hφ hP hD hS => ?_)
      have p_30 : ((u_29.1 : Int) = 1 ∧ xIn (tX Xf Msz) cut_22) ∨ ((u_29.1 : Int) = 0 ∧ ¬ xIn (tX Xf Msz) cut_22) := hφ
      refine W.eq (g2 := F0 m 67 ls [.int (iZ u_29.1)]) rfl ?_
      rcases p_30 with ⟨qt_31, it_31⟩ | ⟨qt_31, it_31⟩
      ·
        rw [qt_31]
        have lnn_32 := mt (xNm_m1 (T := (tX Xf Msz)) (p := cut_22) ((gr_23 ()) (by have h8 := kr_23 (); have := it_31.1; omega)) (by omega)).mpr it_31.2.2
        have tnn_32 : xLet (tX Xf Msz) u_17.1.2.2.1 (u_17.1.2.2.2.1 - u_17.1.2.2.1).toNat := by have h9 := (gr_23 ()) (by have h8 := kr_23 (); have := it_31.1; omega); unfold xLn at h9; rw [← br_23, ← cr_23] at h9; exact h9
        have nnn_32 : xNm (tX Xf Msz) cut_22 = xCd (tX Xf Msz) u_17.1.2.2.1 (u_17.1.2.2.2.1 - u_17.1.2.2.1).toNat := by unfold xNm xCw; rw [if_pos (by omega), ← br_23, ← cr_23]
        refine lv_if_eq (tgt := 92) hx hb dX12_anIce_67 rfl (fun c => absurd c (by decide)) (fun _ => ?_)
        refine lv_aload_n hx hb dX12_anIce_70 rfl (lv_at hl 2 rfl) ?_
        refine lv_bipush (v := iZ 24) hx hb dX12_anIce_71 bip_24 ?_
        refine lv_iload_n hx hb dX12_anIce_73 rfl (lv_at hl 0 rfl) ?_
        refine CWV (As := [.int (iZ 24), .int (iZ (gz Af 3560))]) (rest := []) (wc := _) (wr := [(Ma, .inl (k 1, 5340, .inl u_17.2.2.1))]) hx hb hml hown hts hKK hP hD hS hA (y_findHere l D k ([.ref Ma, .ref Mn, .int (iZ Mst), .long Mtp, .long Mbt, .ref Ms, .ref My, .ref Mt, .ref Mp, .ref Mx, .int (iZ Mtd), .int (iZ Msz), .int (iZ u_17.1.2.1), .int (iZ u_17.1.2.2.1), .int (iZ u_17.1.2.2.2.1), .int (iZ u_17.1.2.2.2.2.1), .int (iZ Mfk), .int (iZ u_17.1.2.2.2.2.2.2), .int (iZ u_17.1.2.2.2.2.2.1), .int (iZ Mse), .int (iZ Mlt), .ref Mo, .int (iZ Mdp), .int (iZ Mct), .ref Mk, .ref Ml, .ref Mb, .ref Mh, .ref Mc, .int (iZ Mdr), .int (iZ Mrs), .ref Mz, .ref Mr, .ref Mq, .int (iZ Mit), .int (iZ Mmk)]) hm Mx Mn Msz u_17.1.2.2.1 u_17.1.2.2.2.1 24 (gz Af 3560) cut_22 Xf Nf N rfl rfl rfl rfl rfl ⟨⟨by omega, by omega⟩, by omega, by omega⟩ ⟨by omega, tnn_32⟩ ⟨by omega, by omega⟩ ⟨by omega, by omega⟩ ⟨hns, nnn_32⟩) ci_X12_findHere qm_X12_181 ⟨Nat.le_of_ble_eq_true rfl, Nat.le_of_ble_eq_true rfl⟩ ⟨Nat.le_of_ble_eq_true rfl, Nat.le_of_ble_eq_true rfl⟩ [2, 3, 1] [0] rfl rfl rfl rfl rfl (dj rfl) 0 rfl rfl rfl hl.1 rfl (Nat.le_of_ble_eq_true rfl) dX12_anIce_74 (fun u_34 H locs hφ hP hD hS => ?_)
        obtain ⟨p_35, p_36⟩ : (u_34.1 = xFn N (gz Af 3560) (xNm (tX Xf Msz) cut_22)) ∧ (-1 ≤ u_34.1 ∧ (u_34.1 < (gz Af 3560) ∨ u_34.1 = -1)) := hφ
        refine W.eq (g2 := F0 m 77 ls [.int (iZ u_34.1)]) rfl ?_
        refine lv_aload_n hx hb dX12_anIce_77 rfl (lv_at hl 2 rfl) ?_
        refine va_get (D := D) (ci := 12) (v := .ref Ma) (C := RX12) (T := TX12) (N := 36) hx hb hts iX12 hown hK hP 1 rfl rfl 0 (bl rfl) (hts _ qf_X12_7) (fun _ h => h) rfl dX12_anIce_78 ?_
        refine lv_iload_n hx hb dX12_anIce_81 rfl (lv_at hl 1 rfl) ?_
        refine va_iald hx hb hK hP 0 1 rfl rfl (zin (e := (3606 + (4 * (gz Af 3561)))) (n := 5340) ⟨by omega, by omega⟩ (bl rfl)) dX12_anIce_82 ?_
        refine lv_topi (fun x_37 ex_37 => ?_)
        obtain rfl : x_37 = iZ (gz u_17.2.2.1 (3606 + (4 * (gz Af 3561)))) := ex_37.trans (gz_eq ⟨by omega, by omega⟩)
        have h_38 := gz_rg u_17.2.2.1 (3606 + (4 * (gz Af 3561)))
        refine lv_icmp_ne (tgt := 92) hx hb dX12_anIce_83 rfl (fun c_39 => ?_) (fun c_39 => ?_)
        ·
          have c_39 := mt (zeq (x := iZ u_34.1) (y := iZ (gz u_17.2.2.1 (3606 + (4 * (gz Af 3561))))) rfl rfl ⟨by omega, by omega⟩ (gz_rg u_17.2.2.1 (3606 + (4 * (gz Af 3561))))).mpr c_39
          have hno := xTr_no (T := tX Xf Msz) (N := N) (n := gz Af 3560) (a := yt_22) (cu := cut_22) (fun h9 => absurd h9.2 (by omega)) (by omega)
          refine lv_aload_n hx hb dX12_anIce_92 rfl (lv_at hl 2 rfl) ?_
          refine lv_bipush (v := iZ 24) hx hb dX12_anIce_93 bip_24 ?_
          refine lv_iload_n hx hb dX12_anIce_95 rfl (lv_at hl 0 rfl) ?_
          refine lv_iload_n hx hb dX12_anIce_96 rfl (lv_at hl 1 rfl) ?_
          refine lv_iconst (v := iZ 1) hx hb dX12_anIce_97 rfl ?_
          refine lv_iadd hx hb dX12_anIce_98 ?_
          refine lv_topi (fun x_40 ex_40 => ?_)
          obtain rfl : x_40 = iZ ((3606 + (4 * (gz Af 3561))) + 1) := ex_40.trans (iZ_add (3606 + (4 * (gz Af 3561))) 1)
          refine CSV (As := [.int (iZ 24), .int (iZ (gz Af 3560)), .int (iZ ((3606 + (4 * (gz Af 3561))) + 1))]) (rest := []) (wc := _) (wr := []) hx hb hml hown hts hKK hP hD hS hA hSY hRR (y_oldOne l D k sa sv hm Ma Mn Ms My Mt Mp Mx Mo Mk Ml Mb Mh Mc Mz Mr Mq Mst Mtd Msz u_17.1.2.1 u_17.1.2.2.1 u_17.1.2.2.2.1 u_17.1.2.2.2.2.1 Mfk u_17.1.2.2.2.2.2.2 u_17.1.2.2.2.2.2.1 Mse Mlt Mdp Mct Mdr Mrs Mit Mmk Mtp Mbt Xf u_17.2.2.1 Nf 24 (gz Af 3560) ((3606 + (4 * (gz Af 3561))) + 1) cut_22 N (by first | with_reducible assumption | exact (by first | with_reducible assumption | exact ⟨⟨by omega, by omega⟩, ⟨by omega, by omega⟩, ⟨by omega, by omega⟩, by omega, by omega, by omega⟩)) (by omega) xt_22 ⟨by omega, by omega⟩ ⟨by omega, by omega⟩ ⟨by omega, by omega⟩ hns) ci_X12_oldOne qm_X12_195 ⟨Nat.le_of_ble_eq_true rfl, Nat.le_of_ble_eq_true rfl⟩ ⟨Nat.le_of_ble_eq_true rfl, Nat.le_of_ble_eq_true rfl⟩ [1, 2, 0, 3] [] rfl rfl rfl rfl rfl (dj rfl) 0 rfl rfl rfl hl.1 rfl (Nat.le_of_ble_eq_true rfl) dX12_anIce_99 (fun u_41 H locs hφ hP hD hS => ?_)
          obtain ⟨p_42, p_43, p_44, p_45⟩ : ((0 ≤ (u_41.1.2.2.1 : Int) ∧ (u_41.1.2.2.1 : Int) ≤ u_41.1.2.2.2.1) ∧ ((u_41.1.2.2.2.1 : Int) ≤ Msz ∧ (Msz : Int) ≤ 900) ∧ (0 ≤ (u_41.1.2.1 : Int) ∧ (u_41.1.2.1 : Int) ≤ 4) ∧ ((u_41.1.2.1 : Int) ≤ 4 * (u_41.1.2.2.2.1 - u_41.1.2.2.1)) ∧ (-1 ≤ (u_41.1.2.2.2.2.1 : Int) ∧ (u_41.1.2.2.2.2.1 : Int) ≤ 100000)) ∧ (0 ≤ (u_41.1.2.2.2.2.2.1 : Int) ∧ (u_41.1.2.2.2.2.2.1 : Int) ≤ 9) ∧ (((u_41.1.1 : Int) = 1 ∧ ∃ (q9 v9 : Int), xTr (tX Xf Msz) N (gz Af 3560) (-1) cut_22 = .inr (q9, v9) ∧ cut_22 < q9 ∧ RFX (tX Xf Msz) q9 u_41.1.2.2.1 u_41.1.2.2.2.1 u_41.1.2.1 u_41.1.2.2.2.2.1 ∧ (0 ≤ v9 ∧ v9 < (gz Af 3560)) ∧ u_41.2.2.1 = upd u_17.2.2.1 (iZ ((3606 + (4 * (gz Af 3561))) + 1)).toNatClampNeg (iZ v9) ∧ (u_41.1.2.2.2.2.2.1 : Int) = 0 ∧ u_41.1.2.2.2.2.2.2 = u_17.1.2.2.2.2.2.2) ∨ ((u_41.1.1 : Int) = 0 ∧ xTr (tX Xf Msz) N (gz Af 3560) (-1) cut_22 = .inl (u_41.1.2.2.2.2.2.1, u_41.1.2.2.2.2.2.2) ∧ 1 ≤ (u_41.1.2.2.2.2.2.1 : Int))) ∧ ((u_41.1.1 : Int) = 0 → KP u_41.2.2.1 u_17.2.2.1) := hφ
          refine W.eq (g2 := F0 m 102 ls [.int (iZ u_41.1.1)]) rfl ?_
          rcases p_44 with ⟨qt_46, cut_46, yt_46, st_46, lt_46, xt_46, rt_46, ht_46, ut_46, vt_46⟩ | ⟨qt_46, st_46, bt_46⟩
          ·
            rw [qt_46]
            obtain ⟨⟨ar_47, br_47⟩, cr_47, dr_47, er_47, gr_47, hr_47⟩ := id xt_46
            have kr_47 := tk_1 dr_47 (xKd_rg _ _)
            have wr_47 := xKw_rg (tX Xf Msz) cut_46
            replace kr_47 : Unit → _ := fun _ => kr_47
            replace er_47 : Unit → _ := fun _ => er_47
            replace gr_47 : Unit → _ := fun _ => gr_47
            replace hr_47 : Unit → _ := fun _ => hr_47
            clear p_45
            have kp_48 := KP.up ht_46 ⟨by omega, by omega⟩ ⟨by omega, by omega⟩
            have ns_49 := NSZ.far ns_25 ht_46 (Or.inl ⟨by omega, by omega⟩) ⟨by omega, by omega⟩
            have ms_50 := MSX.ic ms_26 ht_46 (by omega) (by omega) (by omega)
            have q0gv_51 : gz u_41.2.2.1 3560 = gz u_17.2.2.1 3560 := by have c9 := gz_upc (j := 3560) ht_46 ⟨by omega, by omega⟩ ⟨by omega, by omega⟩ (by omega); omega
            have q1gv_51 : gz u_41.2.2.1 3561 = gz u_17.2.2.1 3561 := by have c9 := gz_upc (j := 3561) ht_46 ⟨by omega, by omega⟩ ⟨by omega, by omega⟩ (by omega); omega
            have v0gv_51 : gz u_41.2.2.1 (3606 + (4 * (gz Af 3561))) = gz u_17.2.2.1 (3606 + (4 * (gz Af 3561))) := by have c9 := gz_upc (j := (3606 + (4 * (gz Af 3561)))) ht_46 ⟨by omega, by omega⟩ ⟨by omega, by omega⟩ (by omega); omega
            have v1gv_51 : gz u_41.2.2.1 ((3606 + (4 * (gz Af 3561))) + 1) = yt_46 := by have c9 := gz_upc (j := ((3606 + (4 * (gz Af 3561))) + 1)) ht_46 ⟨by omega, by omega⟩ ⟨by omega, by omega⟩ (by omega); omega
            obtain ⟨z0gv_51, z1gv_51, z3gv_51, z4gv_51, z5gv_51, zSgv_51⟩ := id ns_49
            refine lv_if_ne (tgt := 107) hx hb dX12_anIce_102 rfl (fun _ => ?_) (fun c => absurd c (by decide))
            refine lv_aload_n hx hb dX12_anIce_107 rfl (lv_at hl 2 rfl) ?_
            refine va_ldcS hx hb hown hRR dX12_anIce_108 ?_
            refine lv_bipush (v := iZ 10) hx hb dX12_anIce_110 bip_10 ?_
            refine CSV (As := [.ref sa, .int (iZ 10)]) (rest := []) (wc := _) (wr := [(Ma, .inl (k 1, 5340, .inl u_41.2.2.1)), (Mn, .inl (k 2, 36, .inr (.inl Nf)))]) hx hb hml hown hts hKK hP hD hS hA hSY hRR (y_wantWord l D k sa sv hm Ma Mn Ms My Mt Mp Mx Mo Mk Ml Mb Mh Mc Mz Mr Mq Mst Mtd Msz u_41.1.2.1 u_41.1.2.2.1 u_41.1.2.2.2.1 u_41.1.2.2.2.2.1 Mfk u_41.1.2.2.2.2.2.2 u_41.1.2.2.2.2.2.1 Mse Mlt Mdp Mct Mdr Mrs Mit Mmk Mtp Mbt Xf 10 cut_46 9 (by first | with_reducible assumption | exact (by first | with_reducible assumption | exact ⟨⟨by omega, by omega⟩, ⟨by omega, by omega⟩, ⟨by omega, by omega⟩, by omega, by omega, by omega⟩)) (by omega) xt_46 ⟨by omega, by omega⟩ ⟨by decide, by decide⟩) ci_X12_wantWord qm_X12_184 ⟨Nat.le_of_ble_eq_true rfl, Nat.le_of_ble_eq_true rfl⟩ ⟨Nat.le_of_ble_eq_true rfl, Nat.le_of_ble_eq_true rfl⟩ [0, 1] [2, 3] rfl rfl rfl rfl rfl (dj rfl) 0 rfl rfl rfl hl.1 rfl (Nat.le_of_ble_eq_true rfl) dX12_anIce_112 (fun u_53 H locs hφ hP hD hS => ?_)
            obtain ⟨p_54, p_55, p_56⟩ : ((0 ≤ (u_53.1.2.2.1 : Int) ∧ (u_53.1.2.2.1 : Int) ≤ u_53.1.2.2.2.1) ∧ ((u_53.1.2.2.2.1 : Int) ≤ Msz ∧ (Msz : Int) ≤ 900) ∧ (0 ≤ (u_53.1.2.1 : Int) ∧ (u_53.1.2.1 : Int) ≤ 4) ∧ ((u_53.1.2.1 : Int) ≤ 4 * (u_53.1.2.2.2.1 - u_53.1.2.2.1)) ∧ (-1 ≤ (u_53.1.2.2.2.2.1 : Int) ∧ (u_53.1.2.2.2.2.1 : Int) ≤ 100000)) ∧ (0 ≤ (u_53.1.2.2.2.2.2.1 : Int) ∧ (u_53.1.2.2.2.2.2.1 : Int) ≤ 9) ∧ (((u_53.1.1 : Int) = 1 ∧ ∃ q9 : Int, xTw (tX Xf Msz) 9 cut_46 = .inr q9 ∧ cut_46 < q9 ∧ RFX (tX Xf Msz) q9 u_53.1.2.2.1 u_53.1.2.2.2.1 u_53.1.2.1 u_53.1.2.2.2.2.1 ∧ (u_53.1.2.2.2.2.2.1 : Int) = 0 ∧ u_53.1.2.2.2.2.2.2 = u_41.1.2.2.2.2.2.2) ∨ ((u_53.1.1 : Int) = 0 ∧ xTw (tX Xf Msz) 9 cut_46 = .inl (u_53.1.2.2.2.2.2.1, u_53.1.2.2.2.2.2.2) ∧ 1 ≤ (u_53.1.2.2.2.2.2.1 : Int))) := hφ
            refine W.eq (g2 := F0 m 115 ls [.int (iZ u_53.1.1)]) rfl ?_
            rcases p_56 with ⟨qt_57, cut_57, st_57, lt_57, xt_57, ut_57, vt_57⟩ | ⟨qt_57, st_57, bt_57⟩
            ·
              rw [qt_57]
              obtain ⟨⟨ar_58, br_58⟩, cr_58, dr_58, er_58, gr_58, hr_58⟩ := id xt_57
              have kr_58 := tk_1 dr_58 (xKd_rg _ _)
              have wr_58 := xKw_rg (tX Xf Msz) cut_57
              replace kr_58 : Unit → _ := fun _ => kr_58
              replace er_58 : Unit → _ := fun _ => er_58
              replace gr_58 : Unit → _ := fun _ => gr_58
              replace hr_58 : Unit → _ := fun _ => hr_58
              refine lv_if_eq (tgt := 164) hx hb dX12_anIce_115 rfl (fun c => absurd c (by decide)) (fun _ => ?_)
              refine lv_aload_n hx hb dX12_anIce_118 rfl (lv_at hl 2 rfl) ?_
              refine lv_iload_n hx hb dX12_anIce_119 rfl (lv_at hl 1 rfl) ?_
              refine lv_iconst (v := iZ 2) hx hb dX12_anIce_120 rfl ?_
              refine lv_iadd hx hb dX12_anIce_121 ?_
              refine lv_topi (fun x_60 ex_60 => ?_)
              obtain rfl : x_60 = iZ ((3606 + (4 * (gz Af 3561))) + 2) := ex_60.trans (iZ_add (3606 + (4 * (gz Af 3561))) 2)
              refine lv_iconst (v := iZ 0) hx hb dX12_anIce_122 rfl ?_
              refine lv_sipush (v := iZ 400) hx hb dX12_anIce_123 sip_400 ?_
              refine CWV (As := [.int (iZ ((3606 + (4 * (gz Af 3561))) + 2)), .int (iZ 0), .int (iZ 400)]) (rest := []) (wc := _) (wr := [(Mn, .inl (k 2, 36, .inr (.inl Nf)))]) hx hb hml hown hts hKK hP hD hS hA (y_number l D k hm Ma Mn Ms My Mt Mp Mx Mo Mk Ml Mb Mh Mc Mz Mr Mq Mst Mtd Msz u_53.1.2.1 u_53.1.2.2.1 u_53.1.2.2.2.1 u_53.1.2.2.2.2.1 Mfk u_53.1.2.2.2.2.2.2 u_53.1.2.2.2.2.2.1 Mse Mlt Mdp Mct Mdr Mrs Mit Mmk Mtp Mbt Xf u_41.2.2.1 ((3606 + (4 * (gz Af 3561))) + 2) 0 400 cut_57 (by first | with_reducible assumption | exact (by first | with_reducible assumption | exact ⟨⟨by omega, by omega⟩, ⟨by omega, by omega⟩, ⟨by omega, by omega⟩, by omega, by omega, by omega⟩)) (by omega) xt_57 ⟨by omega, by omega⟩ ⟨by omega, by omega⟩ ⟨by omega, by omega⟩) ci_X12_number qm_X12_188 ⟨Nat.le_of_ble_eq_true rfl, Nat.le_of_ble_eq_true rfl⟩ ⟨Nat.le_of_ble_eq_true rfl, Nat.le_of_ble_eq_true rfl⟩ [2, 3, 0] [1] rfl rfl rfl rfl rfl (dj rfl) 0 rfl rfl rfl hl.1 rfl (Nat.le_of_ble_eq_true rfl) dX12_anIce_126 (fun u_61 H locs hφ hP hD hS => ?_)
              obtain ⟨p_62, p_63, p_64, p_65⟩ : ((0 ≤ (u_61.1.2.2.1 : Int) ∧ (u_61.1.2.2.1 : Int) ≤ u_61.1.2.2.2.1) ∧ ((u_61.1.2.2.2.1 : Int) ≤ Msz ∧ (Msz : Int) ≤ 900) ∧ (0 ≤ (u_61.1.2.1 : Int) ∧ (u_61.1.2.1 : Int) ≤ 4) ∧ ((u_61.1.2.1 : Int) ≤ 4 * (u_61.1.2.2.2.1 - u_61.1.2.2.1)) ∧ (-1 ≤ (u_61.1.2.2.2.2.1 : Int) ∧ (u_61.1.2.2.2.2.1 : Int) ≤ 100000)) ∧ (0 ≤ (u_61.1.2.2.2.2.2.1 : Int) ∧ (u_61.1.2.2.2.2.2.1 : Int) ≤ 9) ∧ (((u_61.1.1 : Int) = 1 ∧ ∃ (q9 v9 : Int), xTn (tX Xf Msz) 0 400 cut_57 = .inr (q9, v9) ∧ cut_57 < q9 ∧ RFX (tX Xf Msz) q9 u_61.1.2.2.1 u_61.1.2.2.2.1 u_61.1.2.1 u_61.1.2.2.2.2.1 ∧ (0 ≤ v9 ∧ v9 ≤ 400) ∧ u_61.2.2.1 = upd u_41.2.2.1 (iZ ((3606 + (4 * (gz Af 3561))) + 2)).toNatClampNeg (iZ v9) ∧ (u_61.1.2.2.2.2.2.1 : Int) = 0 ∧ u_61.1.2.2.2.2.2.2 = u_53.1.2.2.2.2.2.2) ∨ ((u_61.1.1 : Int) = 0 ∧ xTn (tX Xf Msz) 0 400 cut_57 = .inl (u_61.1.2.2.2.2.2.1, u_61.1.2.2.2.2.2.2) ∧ 1 ≤ (u_61.1.2.2.2.2.2.1 : Int))) ∧ ((u_61.1.1 : Int) = 0 → u_61.2.2.1 = u_41.2.2.1) := hφ
              refine W.eq (g2 := F0 m 129 ls [.int (iZ u_61.1.1)]) rfl ?_
              rcases p_64 with ⟨qt_66, cut_66, yt_66, st_66, lt_66, xt_66, rt_66, ht_66, ut_66, vt_66⟩ | ⟨qt_66, st_66, bt_66⟩
              ·
                rw [qt_66]
                obtain ⟨⟨ar_67, br_67⟩, cr_67, dr_67, er_67, gr_67, hr_67⟩ := id xt_66
                have kr_67 := tk_1 dr_67 (xKd_rg _ _)
                have wr_67 := xKw_rg (tX Xf Msz) cut_66
                replace kr_67 : Unit → _ := fun _ => kr_67
                replace er_67 : Unit → _ := fun _ => er_67
                replace gr_67 : Unit → _ := fun _ => gr_67
                replace hr_67 : Unit → _ := fun _ => hr_67
                clear p_65
                have kp_68 := KP.up ht_66 ⟨by omega, by omega⟩ ⟨by omega, by omega⟩
                have ns_69 := NSZ.far ns_49 ht_66 (Or.inl ⟨by omega, by omega⟩) ⟨by omega, by omega⟩
                have ms_70 := MSX.ic ms_50 ht_66 (by omega) (by omega) (by omega)
                have q0gv_71 : gz u_61.2.2.1 3560 = gz u_41.2.2.1 3560 := by have c9 := gz_upc (j := 3560) ht_66 ⟨by omega, by omega⟩ ⟨by omega, by omega⟩ (by omega); omega
                have q1gv_71 : gz u_61.2.2.1 3561 = gz u_41.2.2.1 3561 := by have c9 := gz_upc (j := 3561) ht_66 ⟨by omega, by omega⟩ ⟨by omega, by omega⟩ (by omega); omega
                have v0gv_71 : gz u_61.2.2.1 (3606 + (4 * (gz Af 3561))) = gz u_41.2.2.1 (3606 + (4 * (gz Af 3561))) := by have c9 := gz_upc (j := (3606 + (4 * (gz Af 3561)))) ht_66 ⟨by omega, by omega⟩ ⟨by omega, by omega⟩ (by omega); omega
                have v1gv_71 : gz u_61.2.2.1 ((3606 + (4 * (gz Af 3561))) + 1) = gz u_41.2.2.1 ((3606 + (4 * (gz Af 3561))) + 1) := by have c9 := gz_upc (j := ((3606 + (4 * (gz Af 3561))) + 1)) ht_66 ⟨by omega, by omega⟩ ⟨by omega, by omega⟩ (by omega); omega
                have v2gv_71 : gz u_61.2.2.1 ((3606 + (4 * (gz Af 3561))) + 2) = yt_66 := by have c9 := gz_upc (j := ((3606 + (4 * (gz Af 3561))) + 2)) ht_66 ⟨by omega, by omega⟩ ⟨by omega, by omega⟩ (by omega); omega
                obtain ⟨z0gv_71, z1gv_71, z3gv_71, z4gv_71, z5gv_71, zSgv_71⟩ := id ns_69
                refine lv_if_eq (tgt := 164) hx hb dX12_anIce_129 rfl (fun c => absurd c (by decide)) (fun _ => ?_)
                refine lv_aload_n hx hb dX12_anIce_132 rfl (lv_at hl 2 rfl) ?_
                refine va_ldcS hx hb hown hRR dX12_anIce_133 ?_
                refine lv_bipush (v := iZ 11) hx hb dX12_anIce_135 bip_11 ?_
                refine CSV (As := [.ref sa, .int (iZ 11)]) (rest := []) (wc := _) (wr := [(Mn, .inl (k 2, 36, .inr (.inl Nf))), (Ma, .inl (k 1, 5340, .inl u_61.2.2.1))]) hx hb hml hown hts hKK hP hD hS hA hSY hRR (y_wantWord l D k sa sv hm Ma Mn Ms My Mt Mp Mx Mo Mk Ml Mb Mh Mc Mz Mr Mq Mst Mtd Msz u_61.1.2.1 u_61.1.2.2.1 u_61.1.2.2.2.1 u_61.1.2.2.2.2.1 Mfk u_61.1.2.2.2.2.2.2 u_61.1.2.2.2.2.2.1 Mse Mlt Mdp Mct Mdr Mrs Mit Mmk Mtp Mbt Xf 11 cut_66 10 (by first | with_reducible assumption | exact (by first | with_reducible assumption | exact ⟨⟨by omega, by omega⟩, ⟨by omega, by omega⟩, ⟨by omega, by omega⟩, by omega, by omega, by omega⟩)) (by omega) xt_66 ⟨by omega, by omega⟩ ⟨by decide, by decide⟩) ci_X12_wantWord qm_X12_184 ⟨Nat.le_of_ble_eq_true rfl, Nat.le_of_ble_eq_true rfl⟩ ⟨Nat.le_of_ble_eq_true rfl, Nat.le_of_ble_eq_true rfl⟩ [1, 2] [0, 3] rfl rfl rfl rfl rfl (dj rfl) 0 rfl rfl rfl hl.1 rfl (Nat.le_of_ble_eq_true rfl) dX12_anIce_137 (fun u_73 H locs hφ hP hD hS => ?_)
                obtain ⟨p_74, p_75, p_76⟩ : ((0 ≤ (u_73.1.2.2.1 : Int) ∧ (u_73.1.2.2.1 : Int) ≤ u_73.1.2.2.2.1) ∧ ((u_73.1.2.2.2.1 : Int) ≤ Msz ∧ (Msz : Int) ≤ 900) ∧ (0 ≤ (u_73.1.2.1 : Int) ∧ (u_73.1.2.1 : Int) ≤ 4) ∧ ((u_73.1.2.1 : Int) ≤ 4 * (u_73.1.2.2.2.1 - u_73.1.2.2.1)) ∧ (-1 ≤ (u_73.1.2.2.2.2.1 : Int) ∧ (u_73.1.2.2.2.2.1 : Int) ≤ 100000)) ∧ (0 ≤ (u_73.1.2.2.2.2.2.1 : Int) ∧ (u_73.1.2.2.2.2.2.1 : Int) ≤ 9) ∧ (((u_73.1.1 : Int) = 1 ∧ ∃ q9 : Int, xTw (tX Xf Msz) 10 cut_66 = .inr q9 ∧ cut_66 < q9 ∧ RFX (tX Xf Msz) q9 u_73.1.2.2.1 u_73.1.2.2.2.1 u_73.1.2.1 u_73.1.2.2.2.2.1 ∧ (u_73.1.2.2.2.2.2.1 : Int) = 0 ∧ u_73.1.2.2.2.2.2.2 = u_61.1.2.2.2.2.2.2) ∨ ((u_73.1.1 : Int) = 0 ∧ xTw (tX Xf Msz) 10 cut_66 = .inl (u_73.1.2.2.2.2.2.1, u_73.1.2.2.2.2.2.2) ∧ 1 ≤ (u_73.1.2.2.2.2.2.1 : Int))) := hφ
                refine W.eq (g2 := F0 m 140 ls [.int (iZ u_73.1.1)]) rfl ?_
                rcases p_76 with ⟨qt_77, cut_77, st_77, lt_77, xt_77, ut_77, vt_77⟩ | ⟨qt_77, st_77, bt_77⟩
                ·
                  rw [qt_77]
                  obtain ⟨⟨ar_78, br_78⟩, cr_78, dr_78, er_78, gr_78, hr_78⟩ := id xt_77
                  have kr_78 := tk_1 dr_78 (xKd_rg _ _)
                  have wr_78 := xKw_rg (tX Xf Msz) cut_77
                  replace kr_78 : Unit → _ := fun _ => kr_78
                  replace er_78 : Unit → _ := fun _ => er_78
                  replace gr_78 : Unit → _ := fun _ => gr_78
                  replace hr_78 : Unit → _ := fun _ => hr_78
                  refine lv_if_eq (tgt := 164) hx hb dX12_anIce_140 rfl (fun c => absurd c (by decide)) (fun _ => ?_)
                  refine lv_aload_n hx hb dX12_anIce_143 rfl (lv_at hl 2 rfl) ?_
                  refine lv_iload_n hx hb dX12_anIce_144 rfl (lv_at hl 1 rfl) ?_
                  refine lv_iconst (v := iZ 3) hx hb dX12_anIce_145 rfl ?_
                  refine lv_iadd hx hb dX12_anIce_146 ?_
                  refine lv_topi (fun x_80 ex_80 => ?_)
                  obtain rfl : x_80 = iZ ((3606 + (4 * (gz Af 3561))) + 3) := ex_80.trans (iZ_add (3606 + (4 * (gz Af 3561))) 3)
                  refine lv_aload_n hx hb dX12_anIce_147 rfl (lv_at hl 2 rfl) ?_
                  refine va_get (D := D) (ci := 12) (v := .ref Ma) (C := RX12) (T := TX12) (N := 36) hx hb hts iX12 hown hK hP 2 rfl rfl 0 (bl rfl) (hts _ qf_X12_7) (fun _ h => h) rfl dX12_anIce_148 ?_
                  refine lv_iload_n hx hb dX12_anIce_151 rfl (lv_at hl 1 rfl) ?_
                  refine lv_iconst (v := iZ 2) hx hb dX12_anIce_152 rfl ?_
                  refine lv_iadd hx hb dX12_anIce_153 ?_
                  refine lv_topi (fun x_81 ex_81 => ?_)
                  obtain rfl : x_81 = iZ ((3606 + (4 * (gz Af 3561))) + 2) := ex_81.trans (iZ_add (3606 + (4 * (gz Af 3561))) 2)
                  refine va_iald hx hb hK hP 1 1 rfl rfl (zin (e := ((3606 + (4 * (gz Af 3561))) + 2)) (n := 5340) ⟨by omega, by omega⟩ (bl rfl)) dX12_anIce_154 ?_
                  refine lv_topi (fun x_82 ex_82 => ?_)
                  obtain rfl : x_82 = iZ (gz u_61.2.2.1 ((3606 + (4 * (gz Af 3561))) + 2)) := ex_82.trans (gz_eq ⟨by omega, by omega⟩)
                  have h_83 := gz_rg u_61.2.2.1 ((3606 + (4 * (gz Af 3561))) + 2)
                  refine lv_sipush (v := iZ 400) hx hb dX12_anIce_155 sip_400 ?_
                  refine CWV (As := [.int (iZ ((3606 + (4 * (gz Af 3561))) + 3)), .int (iZ (gz u_61.2.2.1 ((3606 + (4 * (gz Af 3561))) + 2))), .int (iZ 400)]) (rest := []) (wc := _) (wr := [(Mn, .inl (k 2, 36, .inr (.inl Nf)))]) hx hb hml hown hts hKK hP hD hS hA (y_number l D k hm Ma Mn Ms My Mt Mp Mx Mo Mk Ml Mb Mh Mc Mz Mr Mq Mst Mtd Msz u_73.1.2.1 u_73.1.2.2.1 u_73.1.2.2.2.1 u_73.1.2.2.2.2.1 Mfk u_73.1.2.2.2.2.2.2 u_73.1.2.2.2.2.2.1 Mse Mlt Mdp Mct Mdr Mrs Mit Mmk Mtp Mbt Xf u_61.2.2.1 ((3606 + (4 * (gz Af 3561))) + 3) (gz u_61.2.2.1 ((3606 + (4 * (gz Af 3561))) + 2)) 400 cut_77 (by first | with_reducible assumption | exact (by first | with_reducible assumption | exact ⟨⟨by omega, by omega⟩, ⟨by omega, by omega⟩, ⟨by omega, by omega⟩, by omega, by omega, by omega⟩)) (by omega) xt_77 ⟨by omega, by omega⟩ ⟨by omega, by omega⟩ ⟨by omega, by omega⟩) ci_X12_number qm_X12_188 ⟨Nat.le_of_ble_eq_true rfl, Nat.le_of_ble_eq_true rfl⟩ ⟨Nat.le_of_ble_eq_true rfl, Nat.le_of_ble_eq_true rfl⟩ [2, 3, 1] [0] rfl rfl rfl rfl rfl (dj rfl) 0 rfl rfl rfl hl.1 rfl (Nat.le_of_ble_eq_true rfl) dX12_anIce_158 (fun u_84 H locs hφ hP hD hS => ?_)
                  obtain ⟨p_85, p_86, p_87, p_88⟩ : ((0 ≤ (u_84.1.2.2.1 : Int) ∧ (u_84.1.2.2.1 : Int) ≤ u_84.1.2.2.2.1) ∧ ((u_84.1.2.2.2.1 : Int) ≤ Msz ∧ (Msz : Int) ≤ 900) ∧ (0 ≤ (u_84.1.2.1 : Int) ∧ (u_84.1.2.1 : Int) ≤ 4) ∧ ((u_84.1.2.1 : Int) ≤ 4 * (u_84.1.2.2.2.1 - u_84.1.2.2.1)) ∧ (-1 ≤ (u_84.1.2.2.2.2.1 : Int) ∧ (u_84.1.2.2.2.2.1 : Int) ≤ 100000)) ∧ (0 ≤ (u_84.1.2.2.2.2.2.1 : Int) ∧ (u_84.1.2.2.2.2.2.1 : Int) ≤ 9) ∧ (((u_84.1.1 : Int) = 1 ∧ ∃ (q9 v9 : Int), xTn (tX Xf Msz) (gz u_61.2.2.1 ((3606 + (4 * (gz Af 3561))) + 2)) 400 cut_77 = .inr (q9, v9) ∧ cut_77 < q9 ∧ RFX (tX Xf Msz) q9 u_84.1.2.2.1 u_84.1.2.2.2.1 u_84.1.2.1 u_84.1.2.2.2.2.1 ∧ ((gz u_61.2.2.1 ((3606 + (4 * (gz Af 3561))) + 2)) ≤ v9 ∧ v9 ≤ 400) ∧ u_84.2.2.1 = upd u_61.2.2.1 (iZ ((3606 + (4 * (gz Af 3561))) + 3)).toNatClampNeg (iZ v9) ∧ (u_84.1.2.2.2.2.2.1 : Int) = 0 ∧ u_84.1.2.2.2.2.2.2 = u_73.1.2.2.2.2.2.2) ∨ ((u_84.1.1 : Int) = 0 ∧ xTn (tX Xf Msz) (gz u_61.2.2.1 ((3606 + (4 * (gz Af 3561))) + 2)) 400 cut_77 = .inl (u_84.1.2.2.2.2.2.1, u_84.1.2.2.2.2.2.2) ∧ 1 ≤ (u_84.1.2.2.2.2.2.1 : Int))) ∧ ((u_84.1.1 : Int) = 0 → u_84.2.2.1 = u_61.2.2.1) := hφ
                  refine W.eq (g2 := F0 m 161 ls [.int (iZ u_84.1.1)]) rfl ?_
                  rcases p_87 with ⟨qt_89, cut_89, yt_89, st_89, lt_89, xt_89, rt_89, ht_89, ut_89, vt_89⟩ | ⟨qt_89, st_89, bt_89⟩
                  ·
                    rw [qt_89]
                    obtain ⟨⟨ar_90, br_90⟩, cr_90, dr_90, er_90, gr_90, hr_90⟩ := id xt_89
                    have kr_90 := tk_1 dr_90 (xKd_rg _ _)
                    have wr_90 := xKw_rg (tX Xf Msz) cut_89
                    replace kr_90 : Unit → _ := fun _ => kr_90
                    replace er_90 : Unit → _ := fun _ => er_90
                    replace gr_90 : Unit → _ := fun _ => gr_90
                    replace hr_90 : Unit → _ := fun _ => hr_90
                    clear p_88
                    have kp_91 := KP.up ht_89 ⟨by omega, by omega⟩ ⟨by omega, by omega⟩
                    have ns_92 := NSZ.far ns_69 ht_89 (Or.inl ⟨by omega, by omega⟩) ⟨by omega, by omega⟩
                    have ms_93 := MSX.ic ms_70 ht_89 (by omega) (by omega) (by omega)
                    have q0gv_94 : gz u_84.2.2.1 3560 = gz u_61.2.2.1 3560 := by have c9 := gz_upc (j := 3560) ht_89 ⟨by omega, by omega⟩ ⟨by omega, by omega⟩ (by omega); omega
                    have q1gv_94 : gz u_84.2.2.1 3561 = gz u_61.2.2.1 3561 := by have c9 := gz_upc (j := 3561) ht_89 ⟨by omega, by omega⟩ ⟨by omega, by omega⟩ (by omega); omega
                    have v0gv_94 : gz u_84.2.2.1 (3606 + (4 * (gz Af 3561))) = gz u_61.2.2.1 (3606 + (4 * (gz Af 3561))) := by have c9 := gz_upc (j := (3606 + (4 * (gz Af 3561)))) ht_89 ⟨by omega, by omega⟩ ⟨by omega, by omega⟩ (by omega); omega
                    have v1gv_94 : gz u_84.2.2.1 ((3606 + (4 * (gz Af 3561))) + 1) = gz u_61.2.2.1 ((3606 + (4 * (gz Af 3561))) + 1) := by have c9 := gz_upc (j := ((3606 + (4 * (gz Af 3561))) + 1)) ht_89 ⟨by omega, by omega⟩ ⟨by omega, by omega⟩ (by omega); omega
                    have v2gv_94 : gz u_84.2.2.1 ((3606 + (4 * (gz Af 3561))) + 2) = gz u_61.2.2.1 ((3606 + (4 * (gz Af 3561))) + 2) := by have c9 := gz_upc (j := ((3606 + (4 * (gz Af 3561))) + 2)) ht_89 ⟨by omega, by omega⟩ ⟨by omega, by omega⟩ (by omega); omega
                    have v3gv_94 : gz u_84.2.2.1 ((3606 + (4 * (gz Af 3561))) + 3) = yt_89 := by have c9 := gz_upc (j := ((3606 + (4 * (gz Af 3561))) + 3)) ht_89 ⟨by omega, by omega⟩ ⟨by omega, by omega⟩ (by omega); omega
                    obtain ⟨z0gv_94, z1gv_94, z3gv_94, z4gv_94, z5gv_94, zSgv_94⟩ := id ns_92
                    refine lv_if_ne (tgt := 166) hx hb dX12_anIce_161 rfl (fun _ => ?_) (fun c => absurd c (by decide))
                    have hni := ms_93.2.1
                    refine lv_aload_n hx hb dX12_anIce_166 rfl (lv_at hl 2 rfl) ?_
                    refine va_get (D := D) (ci := 12) (v := .ref Ma) (C := RX12) (T := TX12) (N := 36) hx hb hts iX12 hown hK hP 1 rfl rfl 0 (bl rfl) (hts _ qf_X12_7) (fun _ h => h) rfl dX12_anIce_167 ?_
                    refine lv_sipush (v := iZ 3561) hx hb dX12_anIce_170 sip_3561 ?_
                    refine lv_dup2_11 hx hb dX12_anIce_173 rfl rfl ?_
                    refine va_iald hx hb hK hP 3 1 rfl rfl (zin (e := 3561) (n := 5340) ⟨by omega, by omega⟩ (bl rfl)) dX12_anIce_174 ?_
                    refine lv_topi (fun x_96 ex_96 => ?_)
                    obtain rfl : x_96 = iZ (gz u_84.2.2.1 3561) := ex_96.trans (gz_eq ⟨by omega, by omega⟩)
                    have h_97 := gz_rg u_84.2.2.1 3561
                    refine lv_iconst (v := iZ 1) hx hb dX12_anIce_175 rfl ?_
                    refine lv_iadd hx hb dX12_anIce_176 ?_
                    refine lv_topi (fun x_98 ex_98 => ?_)
                    obtain rfl : x_98 = iZ ((gz u_84.2.2.1 3561) + 1) := ex_98.trans (iZ_add (gz u_84.2.2.1 3561) 1)
                    refine va_iast hx hb hK hP hD hS 3 1 rfl rfl (zin (e := 3561) (n := 5340) ⟨by omega, by omega⟩ (bl rfl)) dX12_anIce_177 (fun H locs hP hD hS => ?_)
                    obtain ⟨f_99, hf_99⟩ : ∃ gg9, gg9 = upd u_84.2.2.1 (iZ 3561).toNatClampNeg (iZ ((gz u_84.2.2.1 3561) + 1)) := ⟨_, rfl⟩
                    rw [← hf_99] at hP hD
                    have kp_100 := KP.up hf_99 ⟨by omega, by omega⟩ ⟨by omega, by omega⟩
                    have ns_101 := NSZ.ice ns_92 hf_99 ⟨by omega, by omega⟩
                    have hu : f_99 = upd u_84.2.2.1 (iZ 3561).toNatClampNeg (iZ (gz Af 3561 + 1)) := by rw [← hni]; exact hf_99
                    have ms_102 := MSX.ni (a := yt_22) (b := yt_46) (c := yt_66) (d := yt_89) ms_93 hu (by omega) (by omega) (by omega) (by omega) (by omega)
                    refine lv_iconst (v := iZ 1) hx hb dX12_anIce_178 rfl ?_
                    obtain ⟨mm0, mm1, mm2, mm3, mmF, mmG⟩ := id ms_102
                    exact EWz hx hb hr hlocks hS ((1, u_84.1.2.1, u_84.1.2.2.1, u_84.1.2.2.2.1, u_84.1.2.2.2.2.1, u_84.1.2.2.2.2.2.1, u_84.1.2.2.2.2.2.2), 0, f_99, Nf) rfl rfl ⟨(show (0 ≤ (u_84.1.2.2.1 : Int) ∧ (u_84.1.2.2.1 : Int) ≤ u_84.1.2.2.2.1) ∧ ((u_84.1.2.2.2.1 : Int) ≤ Msz ∧ (Msz : Int) ≤ 900) ∧ (0 ≤ (u_84.1.2.1 : Int) ∧ (u_84.1.2.1 : Int) ≤ 4) ∧ ((u_84.1.2.1 : Int) ≤ 4 * (u_84.1.2.2.2.1 - u_84.1.2.2.1)) ∧ (-1 ≤ (u_84.1.2.2.2.2.1 : Int) ∧ (u_84.1.2.2.2.2.1 : Int) ≤ 100000) from (by first | with_reducible assumption | exact (by first | with_reducible assumption | exact ⟨⟨by omega, by omega⟩, ⟨by omega, by omega⟩, ⟨by omega, by omega⟩, by omega, by omega, by omega⟩))), (show 0 ≤ (u_84.1.2.2.2.2.2.1 : Int) ∧ (u_84.1.2.2.2.2.2.1 : Int) ≤ 9 from (by omega)), (show KP f_99 Af from (KP.tr kp_100 (KP.tr kp_91 (KP.tr kp_68 (KP.tr kp_48 kp_24))))), (show ((1 : Int) = 1 ∧ ∃ (q9 : Int) (G9 : Int → Int), xIce (tX Xf Msz) N (gz Af 3560) (gz Af 3561) G cu = (xBn (xTs (tX Xf Msz) 59 q9) fun r9 => .inr (r9, G9)) ∧ cu < q9 ∧ RFX (tX Xf Msz) q9 u_84.1.2.2.1 u_84.1.2.2.2.1 u_84.1.2.1 u_84.1.2.2.2.2.1 ∧ MSX f_99 (gz f_99 3560) (gz f_99 3561) (gz f_99 3562) (gz f_99 3678) F G9 ∧ (gz f_99 3560 = gz Af 3560 ∧ gz f_99 3561 = gz Af 3561 + 1 ∧ gz f_99 3562 = gz Af 3562 ∧ gz f_99 3678 = gz Af 3678) ∧ NSZ f_99 ∧ (u_84.1.2.2.2.2.2.1 : Int) = 0 ∧ u_84.1.2.2.2.2.2.2 = Mfp) ∨ ((1 : Int) = 0 ∧ xIce (tX Xf Msz) N (gz Af 3560) (gz Af 3561) G cu = .inl (u_84.1.2.2.2.2.2.1, u_84.1.2.2.2.2.2.2) ∧ 1 ≤ (u_84.1.2.2.2.2.2.1 : Int)) from (Or.inl ⟨rfl, cut_89, xUp (xUp (xUp (xUp G (((gz Af 3561) * 4) + 0) yt_22) (((gz Af 3561) * 4) + 1) yt_46) (((gz Af 3561) * 4) + 2) yt_66) (((gz Af 3561) * 4) + 3) yt_89, xIce_6 (by omega) st_22 (hno.trans st_46) st_57 st_66 st_77 (by have h9 := st_89; rw [v2gv_71] at h9; exact h9), by omega, xt_89, ⟨rfl, rfl, rfl, rfl, mmF, by rw [mm1]; exact mmG⟩, ⟨by omega, by omega, by omega, by omega⟩, ns_101, by omega, by omega⟩)), (show Nf = Nf from rfl)⟩ (hP.sub [1, 2, 3, 0] rfl) (hD.sub [1, 2, 3, 0] rfl rfl) dX12_anIce_179
                  ·
                    rw [qt_89]
                    replace p_88 := p_88 qt_89
                    have kp_103 : KP u_84.2.2.1 u_61.2.2.1 := by rw [p_88]; exact KP.rf _
                    refine lv_if_ne (tgt := 166) hx hb dX12_anIce_161 rfl (fun c => absurd (by decide) c) (fun _ => ?_)
                    refine lv_iconst (v := iZ 0) hx hb dX12_anIce_164 rfl ?_
                    exact EWz hx hb hr hlocks hS ((0, u_84.1.2.1, u_84.1.2.2.1, u_84.1.2.2.2.1, u_84.1.2.2.2.2.1, u_84.1.2.2.2.2.2.1, u_84.1.2.2.2.2.2.2), 0, u_84.2.2.1, Nf) rfl rfl ⟨(show (0 ≤ (u_84.1.2.2.1 : Int) ∧ (u_84.1.2.2.1 : Int) ≤ u_84.1.2.2.2.1) ∧ ((u_84.1.2.2.2.1 : Int) ≤ Msz ∧ (Msz : Int) ≤ 900) ∧ (0 ≤ (u_84.1.2.1 : Int) ∧ (u_84.1.2.1 : Int) ≤ 4) ∧ ((u_84.1.2.1 : Int) ≤ 4 * (u_84.1.2.2.2.1 - u_84.1.2.2.1)) ∧ (-1 ≤ (u_84.1.2.2.2.2.1 : Int) ∧ (u_84.1.2.2.2.2.1 : Int) ≤ 100000) from (by first | with_reducible assumption | exact (by first | with_reducible assumption | exact ⟨⟨by omega, by omega⟩, ⟨by omega, by omega⟩, ⟨by omega, by omega⟩, by omega, by omega, by omega⟩))), (show 0 ≤ (u_84.1.2.2.2.2.2.1 : Int) ∧ (u_84.1.2.2.2.2.2.1 : Int) ≤ 9 from (by omega)), (show KP u_84.2.2.1 Af from (KP.tr kp_103 (KP.tr kp_68 (KP.tr kp_48 kp_24)))), (show ((0 : Int) = 1 ∧ ∃ (q9 : Int) (G9 : Int → Int), xIce (tX Xf Msz) N (gz Af 3560) (gz Af 3561) G cu = (xBn (xTs (tX Xf Msz) 59 q9) fun r9 => .inr (r9, G9)) ∧ cu < q9 ∧ RFX (tX Xf Msz) q9 u_84.1.2.2.1 u_84.1.2.2.2.1 u_84.1.2.1 u_84.1.2.2.2.2.1 ∧ MSX u_84.2.2.1 (gz u_84.2.2.1 3560) (gz u_84.2.2.1 3561) (gz u_84.2.2.1 3562) (gz u_84.2.2.1 3678) F G9 ∧ (gz u_84.2.2.1 3560 = gz Af 3560 ∧ gz u_84.2.2.1 3561 = gz Af 3561 + 1 ∧ gz u_84.2.2.1 3562 = gz Af 3562 ∧ gz u_84.2.2.1 3678 = gz Af 3678) ∧ NSZ u_84.2.2.1 ∧ (u_84.1.2.2.2.2.2.1 : Int) = 0 ∧ u_84.1.2.2.2.2.2.2 = Mfp) ∨ ((0 : Int) = 0 ∧ xIce (tX Xf Msz) N (gz Af 3560) (gz Af 3561) G cu = .inl (u_84.1.2.2.2.2.2.1, u_84.1.2.2.2.2.2.2) ∧ 1 ≤ (u_84.1.2.2.2.2.2.1 : Int)) from (Or.inr ⟨rfl, xIce_l5 (by omega) st_22 (hno.trans st_46) st_57 st_66 st_77 (by have h9 := st_89; rw [v2gv_71] at h9; exact h9), by omega⟩)), (show Nf = Nf from rfl)⟩ (hP.sub [1, 2, 3, 0] rfl) (hD.sub [1, 2, 3, 0] rfl rfl) dX12_anIce_165
                ·
                  rw [qt_77]
                  refine lv_if_eq (tgt := 164) hx hb dX12_anIce_140 rfl (fun _ => ?_) (fun c => absurd (by decide) c)
                  refine lv_iconst (v := iZ 0) hx hb dX12_anIce_164 rfl ?_
                  exact EWz hx hb hr hlocks hS ((0, u_73.1.2.1, u_73.1.2.2.1, u_73.1.2.2.2.1, u_73.1.2.2.2.2.1, u_73.1.2.2.2.2.2.1, u_73.1.2.2.2.2.2.2), 0, u_61.2.2.1, Nf) rfl rfl ⟨(show (0 ≤ (u_73.1.2.2.1 : Int) ∧ (u_73.1.2.2.1 : Int) ≤ u_73.1.2.2.2.1) ∧ ((u_73.1.2.2.2.1 : Int) ≤ Msz ∧ (Msz : Int) ≤ 900) ∧ (0 ≤ (u_73.1.2.1 : Int) ∧ (u_73.1.2.1 : Int) ≤ 4) ∧ ((u_73.1.2.1 : Int) ≤ 4 * (u_73.1.2.2.2.1 - u_73.1.2.2.1)) ∧ (-1 ≤ (u_73.1.2.2.2.2.1 : Int) ∧ (u_73.1.2.2.2.2.1 : Int) ≤ 100000) from (by first | with_reducible assumption | exact (by first | with_reducible assumption | exact ⟨⟨by omega, by omega⟩, ⟨by omega, by omega⟩, ⟨by omega, by omega⟩, by omega, by omega, by omega⟩))), (show 0 ≤ (u_73.1.2.2.2.2.2.1 : Int) ∧ (u_73.1.2.2.2.2.2.1 : Int) ≤ 9 from (by omega)), (show KP u_61.2.2.1 Af from (KP.tr kp_68 (KP.tr kp_48 kp_24))), (show ((0 : Int) = 1 ∧ ∃ (q9 : Int) (G9 : Int → Int), xIce (tX Xf Msz) N (gz Af 3560) (gz Af 3561) G cu = (xBn (xTs (tX Xf Msz) 59 q9) fun r9 => .inr (r9, G9)) ∧ cu < q9 ∧ RFX (tX Xf Msz) q9 u_73.1.2.2.1 u_73.1.2.2.2.1 u_73.1.2.1 u_73.1.2.2.2.2.1 ∧ MSX u_61.2.2.1 (gz u_61.2.2.1 3560) (gz u_61.2.2.1 3561) (gz u_61.2.2.1 3562) (gz u_61.2.2.1 3678) F G9 ∧ (gz u_61.2.2.1 3560 = gz Af 3560 ∧ gz u_61.2.2.1 3561 = gz Af 3561 + 1 ∧ gz u_61.2.2.1 3562 = gz Af 3562 ∧ gz u_61.2.2.1 3678 = gz Af 3678) ∧ NSZ u_61.2.2.1 ∧ (u_73.1.2.2.2.2.2.1 : Int) = 0 ∧ u_73.1.2.2.2.2.2.2 = Mfp) ∨ ((0 : Int) = 0 ∧ xIce (tX Xf Msz) N (gz Af 3560) (gz Af 3561) G cu = .inl (u_73.1.2.2.2.2.2.1, u_73.1.2.2.2.2.2.2) ∧ 1 ≤ (u_73.1.2.2.2.2.2.1 : Int)) from (Or.inr ⟨rfl, xIce_l4 (by omega) st_22 (hno.trans st_46) st_57 st_66 st_77, by omega⟩)), (show Nf = Nf from rfl)⟩ (hP.sub [2, 3, 1, 0] rfl) (hD.sub [2, 3, 1, 0] rfl rfl) dX12_anIce_165
              ·
                rw [qt_66]
                replace p_65 := p_65 qt_66
                have kp_106 : KP u_61.2.2.1 u_41.2.2.1 := by rw [p_65]; exact KP.rf _
                refine lv_if_eq (tgt := 164) hx hb dX12_anIce_129 rfl (fun _ => ?_) (fun c => absurd (by decide) c)
                refine lv_iconst (v := iZ 0) hx hb dX12_anIce_164 rfl ?_
                exact EWz hx hb hr hlocks hS ((0, u_61.1.2.1, u_61.1.2.2.1, u_61.1.2.2.2.1, u_61.1.2.2.2.2.1, u_61.1.2.2.2.2.2.1, u_61.1.2.2.2.2.2.2), 0, u_61.2.2.1, Nf) rfl rfl ⟨(show (0 ≤ (u_61.1.2.2.1 : Int) ∧ (u_61.1.2.2.1 : Int) ≤ u_61.1.2.2.2.1) ∧ ((u_61.1.2.2.2.1 : Int) ≤ Msz ∧ (Msz : Int) ≤ 900) ∧ (0 ≤ (u_61.1.2.1 : Int) ∧ (u_61.1.2.1 : Int) ≤ 4) ∧ ((u_61.1.2.1 : Int) ≤ 4 * (u_61.1.2.2.2.1 - u_61.1.2.2.1)) ∧ (-1 ≤ (u_61.1.2.2.2.2.1 : Int) ∧ (u_61.1.2.2.2.2.1 : Int) ≤ 100000) from (by first | with_reducible assumption | exact (by first | with_reducible assumption | exact ⟨⟨by omega, by omega⟩, ⟨by omega, by omega⟩, ⟨by omega, by omega⟩, by omega, by omega, by omega⟩))), (show 0 ≤ (u_61.1.2.2.2.2.2.1 : Int) ∧ (u_61.1.2.2.2.2.2.1 : Int) ≤ 9 from (by omega)), (show KP u_61.2.2.1 Af from (KP.tr kp_106 (KP.tr kp_48 kp_24))), (show ((0 : Int) = 1 ∧ ∃ (q9 : Int) (G9 : Int → Int), xIce (tX Xf Msz) N (gz Af 3560) (gz Af 3561) G cu = (xBn (xTs (tX Xf Msz) 59 q9) fun r9 => .inr (r9, G9)) ∧ cu < q9 ∧ RFX (tX Xf Msz) q9 u_61.1.2.2.1 u_61.1.2.2.2.1 u_61.1.2.1 u_61.1.2.2.2.2.1 ∧ MSX u_61.2.2.1 (gz u_61.2.2.1 3560) (gz u_61.2.2.1 3561) (gz u_61.2.2.1 3562) (gz u_61.2.2.1 3678) F G9 ∧ (gz u_61.2.2.1 3560 = gz Af 3560 ∧ gz u_61.2.2.1 3561 = gz Af 3561 + 1 ∧ gz u_61.2.2.1 3562 = gz Af 3562 ∧ gz u_61.2.2.1 3678 = gz Af 3678) ∧ NSZ u_61.2.2.1 ∧ (u_61.1.2.2.2.2.2.1 : Int) = 0 ∧ u_61.1.2.2.2.2.2.2 = Mfp) ∨ ((0 : Int) = 0 ∧ xIce (tX Xf Msz) N (gz Af 3560) (gz Af 3561) G cu = .inl (u_61.1.2.2.2.2.2.1, u_61.1.2.2.2.2.2.2) ∧ 1 ≤ (u_61.1.2.2.2.2.2.1 : Int)) from (Or.inr ⟨rfl, xIce_l3 (by omega) st_22 (hno.trans st_46) st_57 st_66, by omega⟩)), (show Nf = Nf from rfl)⟩ (hP.sub [1, 2, 3, 0] rfl) (hD.sub [1, 2, 3, 0] rfl rfl) dX12_anIce_165
            ·
              rw [qt_57]
              refine lv_if_eq (tgt := 164) hx hb dX12_anIce_115 rfl (fun _ => ?_) (fun c => absurd (by decide) c)
              refine lv_iconst (v := iZ 0) hx hb dX12_anIce_164 rfl ?_
              exact EWz hx hb hr hlocks hS ((0, u_53.1.2.1, u_53.1.2.2.1, u_53.1.2.2.2.1, u_53.1.2.2.2.2.1, u_53.1.2.2.2.2.2.1, u_53.1.2.2.2.2.2.2), 0, u_41.2.2.1, Nf) rfl rfl ⟨(show (0 ≤ (u_53.1.2.2.1 : Int) ∧ (u_53.1.2.2.1 : Int) ≤ u_53.1.2.2.2.1) ∧ ((u_53.1.2.2.2.1 : Int) ≤ Msz ∧ (Msz : Int) ≤ 900) ∧ (0 ≤ (u_53.1.2.1 : Int) ∧ (u_53.1.2.1 : Int) ≤ 4) ∧ ((u_53.1.2.1 : Int) ≤ 4 * (u_53.1.2.2.2.1 - u_53.1.2.2.1)) ∧ (-1 ≤ (u_53.1.2.2.2.2.1 : Int) ∧ (u_53.1.2.2.2.2.1 : Int) ≤ 100000) from (by first | with_reducible assumption | exact (by first | with_reducible assumption | exact ⟨⟨by omega, by omega⟩, ⟨by omega, by omega⟩, ⟨by omega, by omega⟩, by omega, by omega, by omega⟩))), (show 0 ≤ (u_53.1.2.2.2.2.2.1 : Int) ∧ (u_53.1.2.2.2.2.2.1 : Int) ≤ 9 from (by omega)), (show KP u_41.2.2.1 Af from (KP.tr kp_48 kp_24)), (show ((0 : Int) = 1 ∧ ∃ (q9 : Int) (G9 : Int → Int), xIce (tX Xf Msz) N (gz Af 3560) (gz Af 3561) G cu = (xBn (xTs (tX Xf Msz) 59 q9) fun r9 => .inr (r9, G9)) ∧ cu < q9 ∧ RFX (tX Xf Msz) q9 u_53.1.2.2.1 u_53.1.2.2.2.1 u_53.1.2.1 u_53.1.2.2.2.2.1 ∧ MSX u_41.2.2.1 (gz u_41.2.2.1 3560) (gz u_41.2.2.1 3561) (gz u_41.2.2.1 3562) (gz u_41.2.2.1 3678) F G9 ∧ (gz u_41.2.2.1 3560 = gz Af 3560 ∧ gz u_41.2.2.1 3561 = gz Af 3561 + 1 ∧ gz u_41.2.2.1 3562 = gz Af 3562 ∧ gz u_41.2.2.1 3678 = gz Af 3678) ∧ NSZ u_41.2.2.1 ∧ (u_53.1.2.2.2.2.2.1 : Int) = 0 ∧ u_53.1.2.2.2.2.2.2 = Mfp) ∨ ((0 : Int) = 0 ∧ xIce (tX Xf Msz) N (gz Af 3560) (gz Af 3561) G cu = .inl (u_53.1.2.2.2.2.2.1, u_53.1.2.2.2.2.2.2) ∧ 1 ≤ (u_53.1.2.2.2.2.2.1 : Int)) from (Or.inr ⟨rfl, xIce_l2 (by omega) st_22 (hno.trans st_46) st_57, by omega⟩)), (show Nf = Nf from rfl)⟩ (hP.sub [2, 3, 0, 1] rfl) (hD.sub [2, 3, 0, 1] rfl rfl) dX12_anIce_165
          ·
            rw [qt_46]
            replace p_45 := p_45 qt_46
            have kp_109 : KP u_41.2.2.1 u_17.2.2.1 := p_45
            refine lv_if_ne (tgt := 107) hx hb dX12_anIce_102 rfl (fun c => absurd (by decide) c) (fun _ => ?_)
            refine lv_iconst (v := iZ 0) hx hb dX12_anIce_105 rfl ?_
            exact EWz hx hb hr hlocks hS ((0, u_41.1.2.1, u_41.1.2.2.1, u_41.1.2.2.2.1, u_41.1.2.2.2.2.1, u_41.1.2.2.2.2.2.1, u_41.1.2.2.2.2.2.2), 0, u_41.2.2.1, Nf) rfl rfl ⟨(show (0 ≤ (u_41.1.2.2.1 : Int) ∧ (u_41.1.2.2.1 : Int) ≤ u_41.1.2.2.2.1) ∧ ((u_41.1.2.2.2.1 : Int) ≤ Msz ∧ (Msz : Int) ≤ 900) ∧ (0 ≤ (u_41.1.2.1 : Int) ∧ (u_41.1.2.1 : Int) ≤ 4) ∧ ((u_41.1.2.1 : Int) ≤ 4 * (u_41.1.2.2.2.1 - u_41.1.2.2.1)) ∧ (-1 ≤ (u_41.1.2.2.2.2.1 : Int) ∧ (u_41.1.2.2.2.2.1 : Int) ≤ 100000) from (by first | with_reducible assumption | exact (by first | with_reducible assumption | exact ⟨⟨by omega, by omega⟩, ⟨by omega, by omega⟩, ⟨by omega, by omega⟩, by omega, by omega, by omega⟩))), (show 0 ≤ (u_41.1.2.2.2.2.2.1 : Int) ∧ (u_41.1.2.2.2.2.2.1 : Int) ≤ 9 from (by omega)), (show KP u_41.2.2.1 Af from (KP.tr kp_109 kp_24)), (show ((0 : Int) = 1 ∧ ∃ (q9 : Int) (G9 : Int → Int), xIce (tX Xf Msz) N (gz Af 3560) (gz Af 3561) G cu = (xBn (xTs (tX Xf Msz) 59 q9) fun r9 => .inr (r9, G9)) ∧ cu < q9 ∧ RFX (tX Xf Msz) q9 u_41.1.2.2.1 u_41.1.2.2.2.1 u_41.1.2.1 u_41.1.2.2.2.2.1 ∧ MSX u_41.2.2.1 (gz u_41.2.2.1 3560) (gz u_41.2.2.1 3561) (gz u_41.2.2.1 3562) (gz u_41.2.2.1 3678) F G9 ∧ (gz u_41.2.2.1 3560 = gz Af 3560 ∧ gz u_41.2.2.1 3561 = gz Af 3561 + 1 ∧ gz u_41.2.2.1 3562 = gz Af 3562 ∧ gz u_41.2.2.1 3678 = gz Af 3678) ∧ NSZ u_41.2.2.1 ∧ (u_41.1.2.2.2.2.2.1 : Int) = 0 ∧ u_41.1.2.2.2.2.2.2 = Mfp) ∨ ((0 : Int) = 0 ∧ xIce (tX Xf Msz) N (gz Af 3560) (gz Af 3561) G cu = .inl (u_41.1.2.2.2.2.2.1, u_41.1.2.2.2.2.2.2) ∧ 1 ≤ (u_41.1.2.2.2.2.2.1 : Int)) from (Or.inr ⟨rfl, xIce_l1 (by omega) st_22 (hno.trans st_46), by omega⟩)), (show Nf = Nf from rfl)⟩ (hP.sub [0, 1, 2, 3] rfl) (hD.sub [0, 1, 2, 3] rfl rfl) dX12_anIce_106
        ·
          have c_39 := (zeq (x := iZ u_34.1) (y := iZ (gz u_17.2.2.1 (3606 + (4 * (gz Af 3561))))) rfl rfl ⟨by omega, by omega⟩ (gz_rg u_17.2.2.1 (3606 + (4 * (gz Af 3561))))).mp c_39
          refine lv_aload_n hx hb dX12_anIce_86 rfl (lv_at hl 2 rfl) ?_
          refine lv_iconst (v := iZ 5) hx hb dX12_anIce_87 rfl ?_
          refine CWV (As := [.int (iZ 5)]) (rest := []) (wc := _) (wr := [(Ma, .inl (k 1, 5340, .inl u_17.2.2.1)), (Mn, .inl (k 2, 36, .inr (.inl Nf)))]) hx hb hml hown hts hKK hP hD hS hA (y_fails l D k hm Ma Mn Ms My Mt Mp Mx Mo Mk Ml Mb Mh Mc Mz Mr Mq Mst Mtd Msz u_17.1.2.1 u_17.1.2.2.1 u_17.1.2.2.2.1 u_17.1.2.2.2.2.1 Mfk u_17.1.2.2.2.2.2.2 u_17.1.2.2.2.2.2.1 Mse Mlt Mdp Mct Mdr Mrs Mit Mmk Mtp Mbt Xf 5 cut_22 ⟨by omega, by omega⟩ (by omega) xt_22) ci_X12_fails qm_X12_164 ⟨Nat.le_of_ble_eq_true rfl, Nat.le_of_ble_eq_true rfl⟩ ⟨Nat.le_of_ble_eq_true rfl, Nat.le_of_ble_eq_true rfl⟩ [1, 2] [0, 3] rfl rfl rfl rfl rfl (dj rfl) 0 rfl rfl rfl hl.1 rfl (Nat.le_of_ble_eq_true rfl) dX12_anIce_88 (fun u_111 H locs hφ hP hD hS => ?_)
          obtain ⟨p_112, p_113⟩ : (u_111.1.2.1 = xFl (tX Xf Msz) cut_22 5 ∧ u_111.1.2.2 = xPl (tX Xf Msz) cut_22) ∧ (1 ≤ (u_111.1.2.1 : Int) ∧ (u_111.1.2.1 : Int) ≤ 9) := hφ
          refine W.eq (g2 := F0 m 91 ls [.int (iZ 0)]) rfl ?_
          exact EWz hx hb hr hlocks hS ((0, u_17.1.2.1, u_17.1.2.2.1, u_17.1.2.2.2.1, u_17.1.2.2.2.2.1, u_111.1.2.1, u_111.1.2.2), 0, u_17.2.2.1, Nf) rfl rfl ⟨(show (0 ≤ (u_17.1.2.2.1 : Int) ∧ (u_17.1.2.2.1 : Int) ≤ u_17.1.2.2.2.1) ∧ ((u_17.1.2.2.2.1 : Int) ≤ Msz ∧ (Msz : Int) ≤ 900) ∧ (0 ≤ (u_17.1.2.1 : Int) ∧ (u_17.1.2.1 : Int) ≤ 4) ∧ ((u_17.1.2.1 : Int) ≤ 4 * (u_17.1.2.2.2.1 - u_17.1.2.2.1)) ∧ (-1 ≤ (u_17.1.2.2.2.2.1 : Int) ∧ (u_17.1.2.2.2.2.1 : Int) ≤ 100000) from (by first | with_reducible assumption | exact (by first | with_reducible assumption | exact ⟨⟨by omega, by omega⟩, ⟨by omega, by omega⟩, ⟨by omega, by omega⟩, by omega, by omega, by omega⟩))), (show 0 ≤ (u_111.1.2.1 : Int) ∧ (u_111.1.2.1 : Int) ≤ 9 from (by omega)), (show KP u_17.2.2.1 Af from kp_24), (show ((0 : Int) = 1 ∧ ∃ (q9 : Int) (G9 : Int → Int), xIce (tX Xf Msz) N (gz Af 3560) (gz Af 3561) G cu = (xBn (xTs (tX Xf Msz) 59 q9) fun r9 => .inr (r9, G9)) ∧ cu < q9 ∧ RFX (tX Xf Msz) q9 u_17.1.2.2.1 u_17.1.2.2.2.1 u_17.1.2.1 u_17.1.2.2.2.2.1 ∧ MSX u_17.2.2.1 (gz u_17.2.2.1 3560) (gz u_17.2.2.1 3561) (gz u_17.2.2.1 3562) (gz u_17.2.2.1 3678) F G9 ∧ (gz u_17.2.2.1 3560 = gz Af 3560 ∧ gz u_17.2.2.1 3561 = gz Af 3561 + 1 ∧ gz u_17.2.2.1 3562 = gz Af 3562 ∧ gz u_17.2.2.1 3678 = gz Af 3678) ∧ NSZ u_17.2.2.1 ∧ (u_111.1.2.1 : Int) = 0 ∧ u_111.1.2.2 = Mfp) ∨ ((0 : Int) = 0 ∧ xIce (tX Xf Msz) N (gz Af 3560) (gz Af 3561) G cu = .inl (u_111.1.2.1, u_111.1.2.2) ∧ 1 ≤ (u_111.1.2.1 : Int)) from (Or.inr ⟨rfl, xIce_l1 (by omega) st_22 ((xTr_tw it_31 (show xFn N (gz Af 3560) (xNm (tX Xf Msz) cut_22) = yt_22 from (by omega)) (by omega)).trans (by unfold xEr; rw [p_112.1, p_112.2])), by omega⟩)), (show Nf = Nf from rfl)⟩ (hP.sub [2, 3, 0, 1] rfl) (hD.sub [2, 3, 0, 1] rfl rfl) dX12_anIce_91
      ·
        rw [qt_31]
        refine lv_if_eq (tgt := 92) hx hb dX12_anIce_67 rfl (fun _ => ?_) (fun c => absurd (by decide) c)
        have hno := xTr_no (T := tX Xf Msz) (N := N) (n := gz Af 3560) (a := yt_22) (cu := cut_22) (fun h9 => it_31 h9.1) (by omega)
        refine lv_aload_n hx hb dX12_anIce_92 rfl (lv_at hl 2 rfl) ?_
        refine lv_bipush (v := iZ 24) hx hb dX12_anIce_93 bip_24 ?_
        refine lv_iload_n hx hb dX12_anIce_95 rfl (lv_at hl 0 rfl) ?_
        refine lv_iload_n hx hb dX12_anIce_96 rfl (lv_at hl 1 rfl) ?_
        refine lv_iconst (v := iZ 1) hx hb dX12_anIce_97 rfl ?_
        refine lv_iadd hx hb dX12_anIce_98 ?_
        refine lv_topi (fun x_115 ex_115 => ?_)
        obtain rfl : x_115 = iZ ((3606 + (4 * (gz Af 3561))) + 1) := ex_115.trans (iZ_add (3606 + (4 * (gz Af 3561))) 1)
        refine CSV (As := [.int (iZ 24), .int (iZ (gz Af 3560)), .int (iZ ((3606 + (4 * (gz Af 3561))) + 1))]) (rest := []) (wc := _) (wr := []) hx hb hml hown hts hKK hP hD hS hA hSY hRR (y_oldOne l D k sa sv hm Ma Mn Ms My Mt Mp Mx Mo Mk Ml Mb Mh Mc Mz Mr Mq Mst Mtd Msz u_17.1.2.1 u_17.1.2.2.1 u_17.1.2.2.2.1 u_17.1.2.2.2.2.1 Mfk u_17.1.2.2.2.2.2.2 u_17.1.2.2.2.2.2.1 Mse Mlt Mdp Mct Mdr Mrs Mit Mmk Mtp Mbt Xf u_17.2.2.1 Nf 24 (gz Af 3560) ((3606 + (4 * (gz Af 3561))) + 1) cut_22 N (by first | with_reducible assumption | exact (by first | with_reducible assumption | exact ⟨⟨by omega, by omega⟩, ⟨by omega, by omega⟩, ⟨by omega, by omega⟩, by omega, by omega, by omega⟩)) (by omega) xt_22 ⟨by omega, by omega⟩ ⟨by omega, by omega⟩ ⟨by omega, by omega⟩ hns) ci_X12_oldOne qm_X12_195 ⟨Nat.le_of_ble_eq_true rfl, Nat.le_of_ble_eq_true rfl⟩ ⟨Nat.le_of_ble_eq_true rfl, Nat.le_of_ble_eq_true rfl⟩ [2, 3, 0, 1] [] rfl rfl rfl rfl rfl (dj rfl) 0 rfl rfl rfl hl.1 rfl (Nat.le_of_ble_eq_true rfl) dX12_anIce_99 (fun u_116 H locs hφ hP hD hS => ?_)
        obtain ⟨p_117, p_118, p_119, p_120⟩ : ((0 ≤ (u_116.1.2.2.1 : Int) ∧ (u_116.1.2.2.1 : Int) ≤ u_116.1.2.2.2.1) ∧ ((u_116.1.2.2.2.1 : Int) ≤ Msz ∧ (Msz : Int) ≤ 900) ∧ (0 ≤ (u_116.1.2.1 : Int) ∧ (u_116.1.2.1 : Int) ≤ 4) ∧ ((u_116.1.2.1 : Int) ≤ 4 * (u_116.1.2.2.2.1 - u_116.1.2.2.1)) ∧ (-1 ≤ (u_116.1.2.2.2.2.1 : Int) ∧ (u_116.1.2.2.2.2.1 : Int) ≤ 100000)) ∧ (0 ≤ (u_116.1.2.2.2.2.2.1 : Int) ∧ (u_116.1.2.2.2.2.2.1 : Int) ≤ 9) ∧ (((u_116.1.1 : Int) = 1 ∧ ∃ (q9 v9 : Int), xTr (tX Xf Msz) N (gz Af 3560) (-1) cut_22 = .inr (q9, v9) ∧ cut_22 < q9 ∧ RFX (tX Xf Msz) q9 u_116.1.2.2.1 u_116.1.2.2.2.1 u_116.1.2.1 u_116.1.2.2.2.2.1 ∧ (0 ≤ v9 ∧ v9 < (gz Af 3560)) ∧ u_116.2.2.1 = upd u_17.2.2.1 (iZ ((3606 + (4 * (gz Af 3561))) + 1)).toNatClampNeg (iZ v9) ∧ (u_116.1.2.2.2.2.2.1 : Int) = 0 ∧ u_116.1.2.2.2.2.2.2 = u_17.1.2.2.2.2.2.2) ∨ ((u_116.1.1 : Int) = 0 ∧ xTr (tX Xf Msz) N (gz Af 3560) (-1) cut_22 = .inl (u_116.1.2.2.2.2.2.1, u_116.1.2.2.2.2.2.2) ∧ 1 ≤ (u_116.1.2.2.2.2.2.1 : Int))) ∧ ((u_116.1.1 : Int) = 0 → KP u_116.2.2.1 u_17.2.2.1) := hφ
        refine W.eq (g2 := F0 m 102 ls [.int (iZ u_116.1.1)]) rfl ?_
        rcases p_119 with ⟨qt_121, cut_121, yt_121, st_121, lt_121, xt_121, rt_121, ht_121, ut_121, vt_121⟩ | ⟨qt_121, st_121, bt_121⟩
        ·
          rw [qt_121]
          obtain ⟨⟨ar_122, br_122⟩, cr_122, dr_122, er_122, gr_122, hr_122⟩ := id xt_121
          have kr_122 := tk_1 dr_122 (xKd_rg _ _)
          have wr_122 := xKw_rg (tX Xf Msz) cut_121
          replace kr_122 : Unit → _ := fun _ => kr_122
          replace er_122 : Unit → _ := fun _ => er_122
          replace gr_122 : Unit → _ := fun _ => gr_122
          replace hr_122 : Unit → _ := fun _ => hr_122
          clear p_120
          have kp_123 := KP.up ht_121 ⟨by omega, by omega⟩ ⟨by omega, by omega⟩
          have ns_124 := NSZ.far ns_25 ht_121 (Or.inl ⟨by omega, by omega⟩) ⟨by omega, by omega⟩
          have ms_125 := MSX.ic ms_26 ht_121 (by omega) (by omega) (by omega)
          have q0gv_126 : gz u_116.2.2.1 3560 = gz u_17.2.2.1 3560 := by have c9 := gz_upc (j := 3560) ht_121 ⟨by omega, by omega⟩ ⟨by omega, by omega⟩ (by omega); omega
          have q1gv_126 : gz u_116.2.2.1 3561 = gz u_17.2.2.1 3561 := by have c9 := gz_upc (j := 3561) ht_121 ⟨by omega, by omega⟩ ⟨by omega, by omega⟩ (by omega); omega
          have v0gv_126 : gz u_116.2.2.1 (3606 + (4 * (gz Af 3561))) = gz u_17.2.2.1 (3606 + (4 * (gz Af 3561))) := by have c9 := gz_upc (j := (3606 + (4 * (gz Af 3561)))) ht_121 ⟨by omega, by omega⟩ ⟨by omega, by omega⟩ (by omega); omega
          have v1gv_126 : gz u_116.2.2.1 ((3606 + (4 * (gz Af 3561))) + 1) = yt_121 := by have c9 := gz_upc (j := ((3606 + (4 * (gz Af 3561))) + 1)) ht_121 ⟨by omega, by omega⟩ ⟨by omega, by omega⟩ (by omega); omega
          obtain ⟨z0gv_126, z1gv_126, z3gv_126, z4gv_126, z5gv_126, zSgv_126⟩ := id ns_124
          refine lv_if_ne (tgt := 107) hx hb dX12_anIce_102 rfl (fun _ => ?_) (fun c => absurd c (by decide))
          refine lv_aload_n hx hb dX12_anIce_107 rfl (lv_at hl 2 rfl) ?_
          refine va_ldcS hx hb hown hRR dX12_anIce_108 ?_
          refine lv_bipush (v := iZ 10) hx hb dX12_anIce_110 bip_10 ?_
          refine CSV (As := [.ref sa, .int (iZ 10)]) (rest := []) (wc := _) (wr := [(Ma, .inl (k 1, 5340, .inl u_116.2.2.1)), (Mn, .inl (k 2, 36, .inr (.inl Nf)))]) hx hb hml hown hts hKK hP hD hS hA hSY hRR (y_wantWord l D k sa sv hm Ma Mn Ms My Mt Mp Mx Mo Mk Ml Mb Mh Mc Mz Mr Mq Mst Mtd Msz u_116.1.2.1 u_116.1.2.2.1 u_116.1.2.2.2.1 u_116.1.2.2.2.2.1 Mfk u_116.1.2.2.2.2.2.2 u_116.1.2.2.2.2.2.1 Mse Mlt Mdp Mct Mdr Mrs Mit Mmk Mtp Mbt Xf 10 cut_121 9 (by first | with_reducible assumption | exact (by first | with_reducible assumption | exact ⟨⟨by omega, by omega⟩, ⟨by omega, by omega⟩, ⟨by omega, by omega⟩, by omega, by omega, by omega⟩)) (by omega) xt_121 ⟨by omega, by omega⟩ ⟨by decide, by decide⟩) ci_X12_wantWord qm_X12_184 ⟨Nat.le_of_ble_eq_true rfl, Nat.le_of_ble_eq_true rfl⟩ ⟨Nat.le_of_ble_eq_true rfl, Nat.le_of_ble_eq_true rfl⟩ [0, 1] [2, 3] rfl rfl rfl rfl rfl (dj rfl) 0 rfl rfl rfl hl.1 rfl (Nat.le_of_ble_eq_true rfl) dX12_anIce_112 (fun u_128 H locs hφ hP hD hS => ?_)
          obtain ⟨p_129, p_130, p_131⟩ : ((0 ≤ (u_128.1.2.2.1 : Int) ∧ (u_128.1.2.2.1 : Int) ≤ u_128.1.2.2.2.1) ∧ ((u_128.1.2.2.2.1 : Int) ≤ Msz ∧ (Msz : Int) ≤ 900) ∧ (0 ≤ (u_128.1.2.1 : Int) ∧ (u_128.1.2.1 : Int) ≤ 4) ∧ ((u_128.1.2.1 : Int) ≤ 4 * (u_128.1.2.2.2.1 - u_128.1.2.2.1)) ∧ (-1 ≤ (u_128.1.2.2.2.2.1 : Int) ∧ (u_128.1.2.2.2.2.1 : Int) ≤ 100000)) ∧ (0 ≤ (u_128.1.2.2.2.2.2.1 : Int) ∧ (u_128.1.2.2.2.2.2.1 : Int) ≤ 9) ∧ (((u_128.1.1 : Int) = 1 ∧ ∃ q9 : Int, xTw (tX Xf Msz) 9 cut_121 = .inr q9 ∧ cut_121 < q9 ∧ RFX (tX Xf Msz) q9 u_128.1.2.2.1 u_128.1.2.2.2.1 u_128.1.2.1 u_128.1.2.2.2.2.1 ∧ (u_128.1.2.2.2.2.2.1 : Int) = 0 ∧ u_128.1.2.2.2.2.2.2 = u_116.1.2.2.2.2.2.2) ∨ ((u_128.1.1 : Int) = 0 ∧ xTw (tX Xf Msz) 9 cut_121 = .inl (u_128.1.2.2.2.2.2.1, u_128.1.2.2.2.2.2.2) ∧ 1 ≤ (u_128.1.2.2.2.2.2.1 : Int))) := hφ
          refine W.eq (g2 := F0 m 115 ls [.int (iZ u_128.1.1)]) rfl ?_
          rcases p_131 with ⟨qt_132, cut_132, st_132, lt_132, xt_132, ut_132, vt_132⟩ | ⟨qt_132, st_132, bt_132⟩
          ·
            rw [qt_132]
            obtain ⟨⟨ar_133, br_133⟩, cr_133, dr_133, er_133, gr_133, hr_133⟩ := id xt_132
            have kr_133 := tk_1 dr_133 (xKd_rg _ _)
            have wr_133 := xKw_rg (tX Xf Msz) cut_132
            replace kr_133 : Unit → _ := fun _ => kr_133
            replace er_133 : Unit → _ := fun _ => er_133
            replace gr_133 : Unit → _ := fun _ => gr_133
            replace hr_133 : Unit → _ := fun _ => hr_133
            refine lv_if_eq (tgt := 164) hx hb dX12_anIce_115 rfl (fun c => absurd c (by decide)) (fun _ => ?_)
            refine lv_aload_n hx hb dX12_anIce_118 rfl (lv_at hl 2 rfl) ?_
            refine lv_iload_n hx hb dX12_anIce_119 rfl (lv_at hl 1 rfl) ?_
            refine lv_iconst (v := iZ 2) hx hb dX12_anIce_120 rfl ?_
            refine lv_iadd hx hb dX12_anIce_121 ?_
            refine lv_topi (fun x_135 ex_135 => ?_)
            obtain rfl : x_135 = iZ ((3606 + (4 * (gz Af 3561))) + 2) := ex_135.trans (iZ_add (3606 + (4 * (gz Af 3561))) 2)
            refine lv_iconst (v := iZ 0) hx hb dX12_anIce_122 rfl ?_
            refine lv_sipush (v := iZ 400) hx hb dX12_anIce_123 sip_400 ?_
            refine CWV (As := [.int (iZ ((3606 + (4 * (gz Af 3561))) + 2)), .int (iZ 0), .int (iZ 400)]) (rest := []) (wc := _) (wr := [(Mn, .inl (k 2, 36, .inr (.inl Nf)))]) hx hb hml hown hts hKK hP hD hS hA (y_number l D k hm Ma Mn Ms My Mt Mp Mx Mo Mk Ml Mb Mh Mc Mz Mr Mq Mst Mtd Msz u_128.1.2.1 u_128.1.2.2.1 u_128.1.2.2.2.1 u_128.1.2.2.2.2.1 Mfk u_128.1.2.2.2.2.2.2 u_128.1.2.2.2.2.2.1 Mse Mlt Mdp Mct Mdr Mrs Mit Mmk Mtp Mbt Xf u_116.2.2.1 ((3606 + (4 * (gz Af 3561))) + 2) 0 400 cut_132 (by first | with_reducible assumption | exact (by first | with_reducible assumption | exact ⟨⟨by omega, by omega⟩, ⟨by omega, by omega⟩, ⟨by omega, by omega⟩, by omega, by omega, by omega⟩)) (by omega) xt_132 ⟨by omega, by omega⟩ ⟨by omega, by omega⟩ ⟨by omega, by omega⟩) ci_X12_number qm_X12_188 ⟨Nat.le_of_ble_eq_true rfl, Nat.le_of_ble_eq_true rfl⟩ ⟨Nat.le_of_ble_eq_true rfl, Nat.le_of_ble_eq_true rfl⟩ [2, 3, 0] [1] rfl rfl rfl rfl rfl (dj rfl) 0 rfl rfl rfl hl.1 rfl (Nat.le_of_ble_eq_true rfl) dX12_anIce_126 (fun u_136 H locs hφ hP hD hS => ?_)
            obtain ⟨p_137, p_138, p_139, p_140⟩ : ((0 ≤ (u_136.1.2.2.1 : Int) ∧ (u_136.1.2.2.1 : Int) ≤ u_136.1.2.2.2.1) ∧ ((u_136.1.2.2.2.1 : Int) ≤ Msz ∧ (Msz : Int) ≤ 900) ∧ (0 ≤ (u_136.1.2.1 : Int) ∧ (u_136.1.2.1 : Int) ≤ 4) ∧ ((u_136.1.2.1 : Int) ≤ 4 * (u_136.1.2.2.2.1 - u_136.1.2.2.1)) ∧ (-1 ≤ (u_136.1.2.2.2.2.1 : Int) ∧ (u_136.1.2.2.2.2.1 : Int) ≤ 100000)) ∧ (0 ≤ (u_136.1.2.2.2.2.2.1 : Int) ∧ (u_136.1.2.2.2.2.2.1 : Int) ≤ 9) ∧ (((u_136.1.1 : Int) = 1 ∧ ∃ (q9 v9 : Int), xTn (tX Xf Msz) 0 400 cut_132 = .inr (q9, v9) ∧ cut_132 < q9 ∧ RFX (tX Xf Msz) q9 u_136.1.2.2.1 u_136.1.2.2.2.1 u_136.1.2.1 u_136.1.2.2.2.2.1 ∧ (0 ≤ v9 ∧ v9 ≤ 400) ∧ u_136.2.2.1 = upd u_116.2.2.1 (iZ ((3606 + (4 * (gz Af 3561))) + 2)).toNatClampNeg (iZ v9) ∧ (u_136.1.2.2.2.2.2.1 : Int) = 0 ∧ u_136.1.2.2.2.2.2.2 = u_128.1.2.2.2.2.2.2) ∨ ((u_136.1.1 : Int) = 0 ∧ xTn (tX Xf Msz) 0 400 cut_132 = .inl (u_136.1.2.2.2.2.2.1, u_136.1.2.2.2.2.2.2) ∧ 1 ≤ (u_136.1.2.2.2.2.2.1 : Int))) ∧ ((u_136.1.1 : Int) = 0 → u_136.2.2.1 = u_116.2.2.1) := hφ
            refine W.eq (g2 := F0 m 129 ls [.int (iZ u_136.1.1)]) rfl ?_
            rcases p_139 with ⟨qt_141, cut_141, yt_141, st_141, lt_141, xt_141, rt_141, ht_141, ut_141, vt_141⟩ | ⟨qt_141, st_141, bt_141⟩
            ·
              rw [qt_141]
              obtain ⟨⟨ar_142, br_142⟩, cr_142, dr_142, er_142, gr_142, hr_142⟩ := id xt_141
              have kr_142 := tk_1 dr_142 (xKd_rg _ _)
              have wr_142 := xKw_rg (tX Xf Msz) cut_141
              replace kr_142 : Unit → _ := fun _ => kr_142
              replace er_142 : Unit → _ := fun _ => er_142
              replace gr_142 : Unit → _ := fun _ => gr_142
              replace hr_142 : Unit → _ := fun _ => hr_142
              clear p_140
              have kp_143 := KP.up ht_141 ⟨by omega, by omega⟩ ⟨by omega, by omega⟩
              have ns_144 := NSZ.far ns_124 ht_141 (Or.inl ⟨by omega, by omega⟩) ⟨by omega, by omega⟩
              have ms_145 := MSX.ic ms_125 ht_141 (by omega) (by omega) (by omega)
              have q0gv_146 : gz u_136.2.2.1 3560 = gz u_116.2.2.1 3560 := by have c9 := gz_upc (j := 3560) ht_141 ⟨by omega, by omega⟩ ⟨by omega, by omega⟩ (by omega); omega
              have q1gv_146 : gz u_136.2.2.1 3561 = gz u_116.2.2.1 3561 := by have c9 := gz_upc (j := 3561) ht_141 ⟨by omega, by omega⟩ ⟨by omega, by omega⟩ (by omega); omega
              have v0gv_146 : gz u_136.2.2.1 (3606 + (4 * (gz Af 3561))) = gz u_116.2.2.1 (3606 + (4 * (gz Af 3561))) := by have c9 := gz_upc (j := (3606 + (4 * (gz Af 3561)))) ht_141 ⟨by omega, by omega⟩ ⟨by omega, by omega⟩ (by omega); omega
              have v1gv_146 : gz u_136.2.2.1 ((3606 + (4 * (gz Af 3561))) + 1) = gz u_116.2.2.1 ((3606 + (4 * (gz Af 3561))) + 1) := by have c9 := gz_upc (j := ((3606 + (4 * (gz Af 3561))) + 1)) ht_141 ⟨by omega, by omega⟩ ⟨by omega, by omega⟩ (by omega); omega
              have v2gv_146 : gz u_136.2.2.1 ((3606 + (4 * (gz Af 3561))) + 2) = yt_141 := by have c9 := gz_upc (j := ((3606 + (4 * (gz Af 3561))) + 2)) ht_141 ⟨by omega, by omega⟩ ⟨by omega, by omega⟩ (by omega); omega
              obtain ⟨z0gv_146, z1gv_146, z3gv_146, z4gv_146, z5gv_146, zSgv_146⟩ := id ns_144
              refine lv_if_eq (tgt := 164) hx hb dX12_anIce_129 rfl (fun c => absurd c (by decide)) (fun _ => ?_)
              refine lv_aload_n hx hb dX12_anIce_132 rfl (lv_at hl 2 rfl) ?_
              refine va_ldcS hx hb hown hRR dX12_anIce_133 ?_
              refine lv_bipush (v := iZ 11) hx hb dX12_anIce_135 bip_11 ?_
              refine CSV (As := [.ref sa, .int (iZ 11)]) (rest := []) (wc := _) (wr := [(Mn, .inl (k 2, 36, .inr (.inl Nf))), (Ma, .inl (k 1, 5340, .inl u_136.2.2.1))]) hx hb hml hown hts hKK hP hD hS hA hSY hRR (y_wantWord l D k sa sv hm Ma Mn Ms My Mt Mp Mx Mo Mk Ml Mb Mh Mc Mz Mr Mq Mst Mtd Msz u_136.1.2.1 u_136.1.2.2.1 u_136.1.2.2.2.1 u_136.1.2.2.2.2.1 Mfk u_136.1.2.2.2.2.2.2 u_136.1.2.2.2.2.2.1 Mse Mlt Mdp Mct Mdr Mrs Mit Mmk Mtp Mbt Xf 11 cut_141 10 (by first | with_reducible assumption | exact (by first | with_reducible assumption | exact ⟨⟨by omega, by omega⟩, ⟨by omega, by omega⟩, ⟨by omega, by omega⟩, by omega, by omega, by omega⟩)) (by omega) xt_141 ⟨by omega, by omega⟩ ⟨by decide, by decide⟩) ci_X12_wantWord qm_X12_184 ⟨Nat.le_of_ble_eq_true rfl, Nat.le_of_ble_eq_true rfl⟩ ⟨Nat.le_of_ble_eq_true rfl, Nat.le_of_ble_eq_true rfl⟩ [1, 2] [0, 3] rfl rfl rfl rfl rfl (dj rfl) 0 rfl rfl rfl hl.1 rfl (Nat.le_of_ble_eq_true rfl) dX12_anIce_137 (fun u_148 H locs hφ hP hD hS => ?_)
              obtain ⟨p_149, p_150, p_151⟩ : ((0 ≤ (u_148.1.2.2.1 : Int) ∧ (u_148.1.2.2.1 : Int) ≤ u_148.1.2.2.2.1) ∧ ((u_148.1.2.2.2.1 : Int) ≤ Msz ∧ (Msz : Int) ≤ 900) ∧ (0 ≤ (u_148.1.2.1 : Int) ∧ (u_148.1.2.1 : Int) ≤ 4) ∧ ((u_148.1.2.1 : Int) ≤ 4 * (u_148.1.2.2.2.1 - u_148.1.2.2.1)) ∧ (-1 ≤ (u_148.1.2.2.2.2.1 : Int) ∧ (u_148.1.2.2.2.2.1 : Int) ≤ 100000)) ∧ (0 ≤ (u_148.1.2.2.2.2.2.1 : Int) ∧ (u_148.1.2.2.2.2.2.1 : Int) ≤ 9) ∧ (((u_148.1.1 : Int) = 1 ∧ ∃ q9 : Int, xTw (tX Xf Msz) 10 cut_141 = .inr q9 ∧ cut_141 < q9 ∧ RFX (tX Xf Msz) q9 u_148.1.2.2.1 u_148.1.2.2.2.1 u_148.1.2.1 u_148.1.2.2.2.2.1 ∧ (u_148.1.2.2.2.2.2.1 : Int) = 0 ∧ u_148.1.2.2.2.2.2.2 = u_136.1.2.2.2.2.2.2) ∨ ((u_148.1.1 : Int) = 0 ∧ xTw (tX Xf Msz) 10 cut_141 = .inl (u_148.1.2.2.2.2.2.1, u_148.1.2.2.2.2.2.2) ∧ 1 ≤ (u_148.1.2.2.2.2.2.1 : Int))) := hφ
              refine W.eq (g2 := F0 m 140 ls [.int (iZ u_148.1.1)]) rfl ?_
              rcases p_151 with ⟨qt_152, cut_152, st_152, lt_152, xt_152, ut_152, vt_152⟩ | ⟨qt_152, st_152, bt_152⟩
              ·
                rw [qt_152]
                obtain ⟨⟨ar_153, br_153⟩, cr_153, dr_153, er_153, gr_153, hr_153⟩ := id xt_152
                have kr_153 := tk_1 dr_153 (xKd_rg _ _)
                have wr_153 := xKw_rg (tX Xf Msz) cut_152
                replace kr_153 : Unit → _ := fun _ => kr_153
                replace er_153 : Unit → _ := fun _ => er_153
                replace gr_153 : Unit → _ := fun _ => gr_153
                replace hr_153 : Unit → _ := fun _ => hr_153
                refine lv_if_eq (tgt := 164) hx hb dX12_anIce_140 rfl (fun c => absurd c (by decide)) (fun _ => ?_)
                refine lv_aload_n hx hb dX12_anIce_143 rfl (lv_at hl 2 rfl) ?_
                refine lv_iload_n hx hb dX12_anIce_144 rfl (lv_at hl 1 rfl) ?_
                refine lv_iconst (v := iZ 3) hx hb dX12_anIce_145 rfl ?_
                refine lv_iadd hx hb dX12_anIce_146 ?_
                refine lv_topi (fun x_155 ex_155 => ?_)
                obtain rfl : x_155 = iZ ((3606 + (4 * (gz Af 3561))) + 3) := ex_155.trans (iZ_add (3606 + (4 * (gz Af 3561))) 3)
                refine lv_aload_n hx hb dX12_anIce_147 rfl (lv_at hl 2 rfl) ?_
                refine va_get (D := D) (ci := 12) (v := .ref Ma) (C := RX12) (T := TX12) (N := 36) hx hb hts iX12 hown hK hP 2 rfl rfl 0 (bl rfl) (hts _ qf_X12_7) (fun _ h => h) rfl dX12_anIce_148 ?_
                refine lv_iload_n hx hb dX12_anIce_151 rfl (lv_at hl 1 rfl) ?_
                refine lv_iconst (v := iZ 2) hx hb dX12_anIce_152 rfl ?_
                refine lv_iadd hx hb dX12_anIce_153 ?_
                refine lv_topi (fun x_156 ex_156 => ?_)
                obtain rfl : x_156 = iZ ((3606 + (4 * (gz Af 3561))) + 2) := ex_156.trans (iZ_add (3606 + (4 * (gz Af 3561))) 2)
                refine va_iald hx hb hK hP 1 1 rfl rfl (zin (e := ((3606 + (4 * (gz Af 3561))) + 2)) (n := 5340) ⟨by omega, by omega⟩ (bl rfl)) dX12_anIce_154 ?_
                refine lv_topi (fun x_157 ex_157 => ?_)
                obtain rfl : x_157 = iZ (gz u_136.2.2.1 ((3606 + (4 * (gz Af 3561))) + 2)) := ex_157.trans (gz_eq ⟨by omega, by omega⟩)
                have h_158 := gz_rg u_136.2.2.1 ((3606 + (4 * (gz Af 3561))) + 2)
                refine lv_sipush (v := iZ 400) hx hb dX12_anIce_155 sip_400 ?_
                refine CWV (As := [.int (iZ ((3606 + (4 * (gz Af 3561))) + 3)), .int (iZ (gz u_136.2.2.1 ((3606 + (4 * (gz Af 3561))) + 2))), .int (iZ 400)]) (rest := []) (wc := _) (wr := [(Mn, .inl (k 2, 36, .inr (.inl Nf)))]) hx hb hml hown hts hKK hP hD hS hA (y_number l D k hm Ma Mn Ms My Mt Mp Mx Mo Mk Ml Mb Mh Mc Mz Mr Mq Mst Mtd Msz u_148.1.2.1 u_148.1.2.2.1 u_148.1.2.2.2.1 u_148.1.2.2.2.2.1 Mfk u_148.1.2.2.2.2.2.2 u_148.1.2.2.2.2.2.1 Mse Mlt Mdp Mct Mdr Mrs Mit Mmk Mtp Mbt Xf u_136.2.2.1 ((3606 + (4 * (gz Af 3561))) + 3) (gz u_136.2.2.1 ((3606 + (4 * (gz Af 3561))) + 2)) 400 cut_152 (by first | with_reducible assumption | exact (by first | with_reducible assumption | exact ⟨⟨by omega, by omega⟩, ⟨by omega, by omega⟩, ⟨by omega, by omega⟩, by omega, by omega, by omega⟩)) (by omega) xt_152 ⟨by omega, by omega⟩ ⟨by omega, by omega⟩ ⟨by omega, by omega⟩) ci_X12_number qm_X12_188 ⟨Nat.le_of_ble_eq_true rfl, Nat.le_of_ble_eq_true rfl⟩ ⟨Nat.le_of_ble_eq_true rfl, Nat.le_of_ble_eq_true rfl⟩ [2, 3, 1] [0] rfl rfl rfl rfl rfl (dj rfl) 0 rfl rfl rfl hl.1 rfl (Nat.le_of_ble_eq_true rfl) dX12_anIce_158 (fun u_159 H locs hφ hP hD hS => ?_)
                obtain ⟨p_160, p_161, p_162, p_163⟩ : ((0 ≤ (u_159.1.2.2.1 : Int) ∧ (u_159.1.2.2.1 : Int) ≤ u_159.1.2.2.2.1) ∧ ((u_159.1.2.2.2.1 : Int) ≤ Msz ∧ (Msz : Int) ≤ 900) ∧ (0 ≤ (u_159.1.2.1 : Int) ∧ (u_159.1.2.1 : Int) ≤ 4) ∧ ((u_159.1.2.1 : Int) ≤ 4 * (u_159.1.2.2.2.1 - u_159.1.2.2.1)) ∧ (-1 ≤ (u_159.1.2.2.2.2.1 : Int) ∧ (u_159.1.2.2.2.2.1 : Int) ≤ 100000)) ∧ (0 ≤ (u_159.1.2.2.2.2.2.1 : Int) ∧ (u_159.1.2.2.2.2.2.1 : Int) ≤ 9) ∧ (((u_159.1.1 : Int) = 1 ∧ ∃ (q9 v9 : Int), xTn (tX Xf Msz) (gz u_136.2.2.1 ((3606 + (4 * (gz Af 3561))) + 2)) 400 cut_152 = .inr (q9, v9) ∧ cut_152 < q9 ∧ RFX (tX Xf Msz) q9 u_159.1.2.2.1 u_159.1.2.2.2.1 u_159.1.2.1 u_159.1.2.2.2.2.1 ∧ ((gz u_136.2.2.1 ((3606 + (4 * (gz Af 3561))) + 2)) ≤ v9 ∧ v9 ≤ 400) ∧ u_159.2.2.1 = upd u_136.2.2.1 (iZ ((3606 + (4 * (gz Af 3561))) + 3)).toNatClampNeg (iZ v9) ∧ (u_159.1.2.2.2.2.2.1 : Int) = 0 ∧ u_159.1.2.2.2.2.2.2 = u_148.1.2.2.2.2.2.2) ∨ ((u_159.1.1 : Int) = 0 ∧ xTn (tX Xf Msz) (gz u_136.2.2.1 ((3606 + (4 * (gz Af 3561))) + 2)) 400 cut_152 = .inl (u_159.1.2.2.2.2.2.1, u_159.1.2.2.2.2.2.2) ∧ 1 ≤ (u_159.1.2.2.2.2.2.1 : Int))) ∧ ((u_159.1.1 : Int) = 0 → u_159.2.2.1 = u_136.2.2.1) := hφ
                refine W.eq (g2 := F0 m 161 ls [.int (iZ u_159.1.1)]) rfl ?_
                rcases p_162 with ⟨qt_164, cut_164, yt_164, st_164, lt_164, xt_164, rt_164, ht_164, ut_164, vt_164⟩ | ⟨qt_164, st_164, bt_164⟩
                ·
                  rw [qt_164]
                  obtain ⟨⟨ar_165, br_165⟩, cr_165, dr_165, er_165, gr_165, hr_165⟩ := id xt_164
                  have kr_165 := tk_1 dr_165 (xKd_rg _ _)
                  have wr_165 := xKw_rg (tX Xf Msz) cut_164
                  replace kr_165 : Unit → _ := fun _ => kr_165
                  replace er_165 : Unit → _ := fun _ => er_165
                  replace gr_165 : Unit → _ := fun _ => gr_165
                  replace hr_165 : Unit → _ := fun _ => hr_165
                  clear p_163
                  have kp_166 := KP.up ht_164 ⟨by omega, by omega⟩ ⟨by omega, by omega⟩
                  have ns_167 := NSZ.far ns_144 ht_164 (Or.inl ⟨by omega, by omega⟩) ⟨by omega, by omega⟩
                  have ms_168 := MSX.ic ms_145 ht_164 (by omega) (by omega) (by omega)
                  have q0gv_169 : gz u_159.2.2.1 3560 = gz u_136.2.2.1 3560 := by have c9 := gz_upc (j := 3560) ht_164 ⟨by omega, by omega⟩ ⟨by omega, by omega⟩ (by omega); omega
                  have q1gv_169 : gz u_159.2.2.1 3561 = gz u_136.2.2.1 3561 := by have c9 := gz_upc (j := 3561) ht_164 ⟨by omega, by omega⟩ ⟨by omega, by omega⟩ (by omega); omega
                  have v0gv_169 : gz u_159.2.2.1 (3606 + (4 * (gz Af 3561))) = gz u_136.2.2.1 (3606 + (4 * (gz Af 3561))) := by have c9 := gz_upc (j := (3606 + (4 * (gz Af 3561)))) ht_164 ⟨by omega, by omega⟩ ⟨by omega, by omega⟩ (by omega); omega
                  have v1gv_169 : gz u_159.2.2.1 ((3606 + (4 * (gz Af 3561))) + 1) = gz u_136.2.2.1 ((3606 + (4 * (gz Af 3561))) + 1) := by have c9 := gz_upc (j := ((3606 + (4 * (gz Af 3561))) + 1)) ht_164 ⟨by omega, by omega⟩ ⟨by omega, by omega⟩ (by omega); omega
                  have v2gv_169 : gz u_159.2.2.1 ((3606 + (4 * (gz Af 3561))) + 2) = gz u_136.2.2.1 ((3606 + (4 * (gz Af 3561))) + 2) := by have c9 := gz_upc (j := ((3606 + (4 * (gz Af 3561))) + 2)) ht_164 ⟨by omega, by omega⟩ ⟨by omega, by omega⟩ (by omega); omega
                  have v3gv_169 : gz u_159.2.2.1 ((3606 + (4 * (gz Af 3561))) + 3) = yt_164 := by have c9 := gz_upc (j := ((3606 + (4 * (gz Af 3561))) + 3)) ht_164 ⟨by omega, by omega⟩ ⟨by omega, by omega⟩ (by omega); omega
                  obtain ⟨z0gv_169, z1gv_169, z3gv_169, z4gv_169, z5gv_169, zSgv_169⟩ := id ns_167
                  refine lv_if_ne (tgt := 166) hx hb dX12_anIce_161 rfl (fun _ => ?_) (fun c => absurd c (by decide))
                  have hni := ms_168.2.1
                  refine lv_aload_n hx hb dX12_anIce_166 rfl (lv_at hl 2 rfl) ?_
                  refine va_get (D := D) (ci := 12) (v := .ref Ma) (C := RX12) (T := TX12) (N := 36) hx hb hts iX12 hown hK hP 1 rfl rfl 0 (bl rfl) (hts _ qf_X12_7) (fun _ h => h) rfl dX12_anIce_167 ?_
                  refine lv_sipush (v := iZ 3561) hx hb dX12_anIce_170 sip_3561 ?_
                  refine lv_dup2_11 hx hb dX12_anIce_173 rfl rfl ?_
                  refine va_iald hx hb hK hP 3 1 rfl rfl (zin (e := 3561) (n := 5340) ⟨by omega, by omega⟩ (bl rfl)) dX12_anIce_174 ?_
                  refine lv_topi (fun x_171 ex_171 => ?_)
                  obtain rfl : x_171 = iZ (gz u_159.2.2.1 3561) := ex_171.trans (gz_eq ⟨by omega, by omega⟩)
                  have h_172 := gz_rg u_159.2.2.1 3561
                  refine lv_iconst (v := iZ 1) hx hb dX12_anIce_175 rfl ?_
                  refine lv_iadd hx hb dX12_anIce_176 ?_
                  refine lv_topi (fun x_173 ex_173 => ?_)
                  obtain rfl : x_173 = iZ ((gz u_159.2.2.1 3561) + 1) := ex_173.trans (iZ_add (gz u_159.2.2.1 3561) 1)
                  refine va_iast hx hb hK hP hD hS 3 1 rfl rfl (zin (e := 3561) (n := 5340) ⟨by omega, by omega⟩ (bl rfl)) dX12_anIce_177 (fun H locs hP hD hS => ?_)
                  obtain ⟨f_174, hf_174⟩ : ∃ gg9, gg9 = upd u_159.2.2.1 (iZ 3561).toNatClampNeg (iZ ((gz u_159.2.2.1 3561) + 1)) := ⟨_, rfl⟩
                  rw [← hf_174] at hP hD
                  have kp_175 := KP.up hf_174 ⟨by omega, by omega⟩ ⟨by omega, by omega⟩
                  have ns_176 := NSZ.ice ns_167 hf_174 ⟨by omega, by omega⟩
                  have hu : f_174 = upd u_159.2.2.1 (iZ 3561).toNatClampNeg (iZ (gz Af 3561 + 1)) := by rw [← hni]; exact hf_174
                  have ms_177 := MSX.ni (a := yt_22) (b := yt_121) (c := yt_141) (d := yt_164) ms_168 hu (by omega) (by omega) (by omega) (by omega) (by omega)
                  refine lv_iconst (v := iZ 1) hx hb dX12_anIce_178 rfl ?_
                  obtain ⟨mm0, mm1, mm2, mm3, mmF, mmG⟩ := id ms_177
                  exact EWz hx hb hr hlocks hS ((1, u_159.1.2.1, u_159.1.2.2.1, u_159.1.2.2.2.1, u_159.1.2.2.2.2.1, u_159.1.2.2.2.2.2.1, u_159.1.2.2.2.2.2.2), 0, f_174, Nf) rfl rfl ⟨(show (0 ≤ (u_159.1.2.2.1 : Int) ∧ (u_159.1.2.2.1 : Int) ≤ u_159.1.2.2.2.1) ∧ ((u_159.1.2.2.2.1 : Int) ≤ Msz ∧ (Msz : Int) ≤ 900) ∧ (0 ≤ (u_159.1.2.1 : Int) ∧ (u_159.1.2.1 : Int) ≤ 4) ∧ ((u_159.1.2.1 : Int) ≤ 4 * (u_159.1.2.2.2.1 - u_159.1.2.2.1)) ∧ (-1 ≤ (u_159.1.2.2.2.2.1 : Int) ∧ (u_159.1.2.2.2.2.1 : Int) ≤ 100000) from (by first | with_reducible assumption | exact (by first | with_reducible assumption | exact ⟨⟨by omega, by omega⟩, ⟨by omega, by omega⟩, ⟨by omega, by omega⟩, by omega, by omega, by omega⟩))), (show 0 ≤ (u_159.1.2.2.2.2.2.1 : Int) ∧ (u_159.1.2.2.2.2.2.1 : Int) ≤ 9 from (by omega)), (show KP f_174 Af from (KP.tr kp_175 (KP.tr kp_166 (KP.tr kp_143 (KP.tr kp_123 kp_24))))), (show ((1 : Int) = 1 ∧ ∃ (q9 : Int) (G9 : Int → Int), xIce (tX Xf Msz) N (gz Af 3560) (gz Af 3561) G cu = (xBn (xTs (tX Xf Msz) 59 q9) fun r9 => .inr (r9, G9)) ∧ cu < q9 ∧ RFX (tX Xf Msz) q9 u_159.1.2.2.1 u_159.1.2.2.2.1 u_159.1.2.1 u_159.1.2.2.2.2.1 ∧ MSX f_174 (gz f_174 3560) (gz f_174 3561) (gz f_174 3562) (gz f_174 3678) F G9 ∧ (gz f_174 3560 = gz Af 3560 ∧ gz f_174 3561 = gz Af 3561 + 1 ∧ gz f_174 3562 = gz Af 3562 ∧ gz f_174 3678 = gz Af 3678) ∧ NSZ f_174 ∧ (u_159.1.2.2.2.2.2.1 : Int) = 0 ∧ u_159.1.2.2.2.2.2.2 = Mfp) ∨ ((1 : Int) = 0 ∧ xIce (tX Xf Msz) N (gz Af 3560) (gz Af 3561) G cu = .inl (u_159.1.2.2.2.2.2.1, u_159.1.2.2.2.2.2.2) ∧ 1 ≤ (u_159.1.2.2.2.2.2.1 : Int)) from (Or.inl ⟨rfl, cut_164, xUp (xUp (xUp (xUp G (((gz Af 3561) * 4) + 0) yt_22) (((gz Af 3561) * 4) + 1) yt_121) (((gz Af 3561) * 4) + 2) yt_141) (((gz Af 3561) * 4) + 3) yt_164, xIce_6 (by omega) st_22 (hno.trans st_121) st_132 st_141 st_152 (by have h9 := st_164; rw [v2gv_146] at h9; exact h9), by omega, xt_164, ⟨rfl, rfl, rfl, rfl, mmF, by rw [mm1]; exact mmG⟩, ⟨by omega, by omega, by omega, by omega⟩, ns_176, by omega, by omega⟩)), (show Nf = Nf from rfl)⟩ (hP.sub [1, 2, 3, 0] rfl) (hD.sub [1, 2, 3, 0] rfl rfl) dX12_anIce_179
                ·
                  rw [qt_164]
                  replace p_163 := p_163 qt_164
                  have kp_178 : KP u_159.2.2.1 u_136.2.2.1 := by rw [p_163]; exact KP.rf _
                  refine lv_if_ne (tgt := 166) hx hb dX12_anIce_161 rfl (fun c => absurd (by decide) c) (fun _ => ?_)
                  refine lv_iconst (v := iZ 0) hx hb dX12_anIce_164 rfl ?_
                  exact EWz hx hb hr hlocks hS ((0, u_159.1.2.1, u_159.1.2.2.1, u_159.1.2.2.2.1, u_159.1.2.2.2.2.1, u_159.1.2.2.2.2.2.1, u_159.1.2.2.2.2.2.2), 0, u_159.2.2.1, Nf) rfl rfl ⟨(show (0 ≤ (u_159.1.2.2.1 : Int) ∧ (u_159.1.2.2.1 : Int) ≤ u_159.1.2.2.2.1) ∧ ((u_159.1.2.2.2.1 : Int) ≤ Msz ∧ (Msz : Int) ≤ 900) ∧ (0 ≤ (u_159.1.2.1 : Int) ∧ (u_159.1.2.1 : Int) ≤ 4) ∧ ((u_159.1.2.1 : Int) ≤ 4 * (u_159.1.2.2.2.1 - u_159.1.2.2.1)) ∧ (-1 ≤ (u_159.1.2.2.2.2.1 : Int) ∧ (u_159.1.2.2.2.2.1 : Int) ≤ 100000) from (by first | with_reducible assumption | exact (by first | with_reducible assumption | exact ⟨⟨by omega, by omega⟩, ⟨by omega, by omega⟩, ⟨by omega, by omega⟩, by omega, by omega, by omega⟩))), (show 0 ≤ (u_159.1.2.2.2.2.2.1 : Int) ∧ (u_159.1.2.2.2.2.2.1 : Int) ≤ 9 from (by omega)), (show KP u_159.2.2.1 Af from (KP.tr kp_178 (KP.tr kp_143 (KP.tr kp_123 kp_24)))), (show ((0 : Int) = 1 ∧ ∃ (q9 : Int) (G9 : Int → Int), xIce (tX Xf Msz) N (gz Af 3560) (gz Af 3561) G cu = (xBn (xTs (tX Xf Msz) 59 q9) fun r9 => .inr (r9, G9)) ∧ cu < q9 ∧ RFX (tX Xf Msz) q9 u_159.1.2.2.1 u_159.1.2.2.2.1 u_159.1.2.1 u_159.1.2.2.2.2.1 ∧ MSX u_159.2.2.1 (gz u_159.2.2.1 3560) (gz u_159.2.2.1 3561) (gz u_159.2.2.1 3562) (gz u_159.2.2.1 3678) F G9 ∧ (gz u_159.2.2.1 3560 = gz Af 3560 ∧ gz u_159.2.2.1 3561 = gz Af 3561 + 1 ∧ gz u_159.2.2.1 3562 = gz Af 3562 ∧ gz u_159.2.2.1 3678 = gz Af 3678) ∧ NSZ u_159.2.2.1 ∧ (u_159.1.2.2.2.2.2.1 : Int) = 0 ∧ u_159.1.2.2.2.2.2.2 = Mfp) ∨ ((0 : Int) = 0 ∧ xIce (tX Xf Msz) N (gz Af 3560) (gz Af 3561) G cu = .inl (u_159.1.2.2.2.2.2.1, u_159.1.2.2.2.2.2.2) ∧ 1 ≤ (u_159.1.2.2.2.2.2.1 : Int)) from (Or.inr ⟨rfl, xIce_l5 (by omega) st_22 (hno.trans st_121) st_132 st_141 st_152 (by have h9 := st_164; rw [v2gv_146] at h9; exact h9), by omega⟩)), (show Nf = Nf from rfl)⟩ (hP.sub [1, 2, 3, 0] rfl) (hD.sub [1, 2, 3, 0] rfl rfl) dX12_anIce_165
              ·
                rw [qt_152]
                refine lv_if_eq (tgt := 164) hx hb dX12_anIce_140 rfl (fun _ => ?_) (fun c => absurd (by decide) c)
                refine lv_iconst (v := iZ 0) hx hb dX12_anIce_164 rfl ?_
                exact EWz hx hb hr hlocks hS ((0, u_148.1.2.1, u_148.1.2.2.1, u_148.1.2.2.2.1, u_148.1.2.2.2.2.1, u_148.1.2.2.2.2.2.1, u_148.1.2.2.2.2.2.2), 0, u_136.2.2.1, Nf) rfl rfl ⟨(show (0 ≤ (u_148.1.2.2.1 : Int) ∧ (u_148.1.2.2.1 : Int) ≤ u_148.1.2.2.2.1) ∧ ((u_148.1.2.2.2.1 : Int) ≤ Msz ∧ (Msz : Int) ≤ 900) ∧ (0 ≤ (u_148.1.2.1 : Int) ∧ (u_148.1.2.1 : Int) ≤ 4) ∧ ((u_148.1.2.1 : Int) ≤ 4 * (u_148.1.2.2.2.1 - u_148.1.2.2.1)) ∧ (-1 ≤ (u_148.1.2.2.2.2.1 : Int) ∧ (u_148.1.2.2.2.2.1 : Int) ≤ 100000) from (by first | with_reducible assumption | exact (by first | with_reducible assumption | exact ⟨⟨by omega, by omega⟩, ⟨by omega, by omega⟩, ⟨by omega, by omega⟩, by omega, by omega, by omega⟩))), (show 0 ≤ (u_148.1.2.2.2.2.2.1 : Int) ∧ (u_148.1.2.2.2.2.2.1 : Int) ≤ 9 from (by omega)), (show KP u_136.2.2.1 Af from (KP.tr kp_143 (KP.tr kp_123 kp_24))), (show ((0 : Int) = 1 ∧ ∃ (q9 : Int) (G9 : Int → Int), xIce (tX Xf Msz) N (gz Af 3560) (gz Af 3561) G cu = (xBn (xTs (tX Xf Msz) 59 q9) fun r9 => .inr (r9, G9)) ∧ cu < q9 ∧ RFX (tX Xf Msz) q9 u_148.1.2.2.1 u_148.1.2.2.2.1 u_148.1.2.1 u_148.1.2.2.2.2.1 ∧ MSX u_136.2.2.1 (gz u_136.2.2.1 3560) (gz u_136.2.2.1 3561) (gz u_136.2.2.1 3562) (gz u_136.2.2.1 3678) F G9 ∧ (gz u_136.2.2.1 3560 = gz Af 3560 ∧ gz u_136.2.2.1 3561 = gz Af 3561 + 1 ∧ gz u_136.2.2.1 3562 = gz Af 3562 ∧ gz u_136.2.2.1 3678 = gz Af 3678) ∧ NSZ u_136.2.2.1 ∧ (u_148.1.2.2.2.2.2.1 : Int) = 0 ∧ u_148.1.2.2.2.2.2.2 = Mfp) ∨ ((0 : Int) = 0 ∧ xIce (tX Xf Msz) N (gz Af 3560) (gz Af 3561) G cu = .inl (u_148.1.2.2.2.2.2.1, u_148.1.2.2.2.2.2.2) ∧ 1 ≤ (u_148.1.2.2.2.2.2.1 : Int)) from (Or.inr ⟨rfl, xIce_l4 (by omega) st_22 (hno.trans st_121) st_132 st_141 st_152, by omega⟩)), (show Nf = Nf from rfl)⟩ (hP.sub [2, 3, 1, 0] rfl) (hD.sub [2, 3, 1, 0] rfl rfl) dX12_anIce_165
            ·
              rw [qt_141]
              replace p_140 := p_140 qt_141
              have kp_181 : KP u_136.2.2.1 u_116.2.2.1 := by rw [p_140]; exact KP.rf _
              refine lv_if_eq (tgt := 164) hx hb dX12_anIce_129 rfl (fun _ => ?_) (fun c => absurd (by decide) c)
              refine lv_iconst (v := iZ 0) hx hb dX12_anIce_164 rfl ?_
              exact EWz hx hb hr hlocks hS ((0, u_136.1.2.1, u_136.1.2.2.1, u_136.1.2.2.2.1, u_136.1.2.2.2.2.1, u_136.1.2.2.2.2.2.1, u_136.1.2.2.2.2.2.2), 0, u_136.2.2.1, Nf) rfl rfl ⟨(show (0 ≤ (u_136.1.2.2.1 : Int) ∧ (u_136.1.2.2.1 : Int) ≤ u_136.1.2.2.2.1) ∧ ((u_136.1.2.2.2.1 : Int) ≤ Msz ∧ (Msz : Int) ≤ 900) ∧ (0 ≤ (u_136.1.2.1 : Int) ∧ (u_136.1.2.1 : Int) ≤ 4) ∧ ((u_136.1.2.1 : Int) ≤ 4 * (u_136.1.2.2.2.1 - u_136.1.2.2.1)) ∧ (-1 ≤ (u_136.1.2.2.2.2.1 : Int) ∧ (u_136.1.2.2.2.2.1 : Int) ≤ 100000) from (by first | with_reducible assumption | exact (by first | with_reducible assumption | exact ⟨⟨by omega, by omega⟩, ⟨by omega, by omega⟩, ⟨by omega, by omega⟩, by omega, by omega, by omega⟩))), (show 0 ≤ (u_136.1.2.2.2.2.2.1 : Int) ∧ (u_136.1.2.2.2.2.2.1 : Int) ≤ 9 from (by omega)), (show KP u_136.2.2.1 Af from (KP.tr kp_181 (KP.tr kp_123 kp_24))), (show ((0 : Int) = 1 ∧ ∃ (q9 : Int) (G9 : Int → Int), xIce (tX Xf Msz) N (gz Af 3560) (gz Af 3561) G cu = (xBn (xTs (tX Xf Msz) 59 q9) fun r9 => .inr (r9, G9)) ∧ cu < q9 ∧ RFX (tX Xf Msz) q9 u_136.1.2.2.1 u_136.1.2.2.2.1 u_136.1.2.1 u_136.1.2.2.2.2.1 ∧ MSX u_136.2.2.1 (gz u_136.2.2.1 3560) (gz u_136.2.2.1 3561) (gz u_136.2.2.1 3562) (gz u_136.2.2.1 3678) F G9 ∧ (gz u_136.2.2.1 3560 = gz Af 3560 ∧ gz u_136.2.2.1 3561 = gz Af 3561 + 1 ∧ gz u_136.2.2.1 3562 = gz Af 3562 ∧ gz u_136.2.2.1 3678 = gz Af 3678) ∧ NSZ u_136.2.2.1 ∧ (u_136.1.2.2.2.2.2.1 : Int) = 0 ∧ u_136.1.2.2.2.2.2.2 = Mfp) ∨ ((0 : Int) = 0 ∧ xIce (tX Xf Msz) N (gz Af 3560) (gz Af 3561) G cu = .inl (u_136.1.2.2.2.2.2.1, u_136.1.2.2.2.2.2.2) ∧ 1 ≤ (u_136.1.2.2.2.2.2.1 : Int)) from (Or.inr ⟨rfl, xIce_l3 (by omega) st_22 (hno.trans st_121) st_132 st_141, by omega⟩)), (show Nf = Nf from rfl)⟩ (hP.sub [1, 2, 3, 0] rfl) (hD.sub [1, 2, 3, 0] rfl rfl) dX12_anIce_165
          ·
            rw [qt_132]
            refine lv_if_eq (tgt := 164) hx hb dX12_anIce_115 rfl (fun _ => ?_) (fun c => absurd (by decide) c)
            refine lv_iconst (v := iZ 0) hx hb dX12_anIce_164 rfl ?_
            exact EWz hx hb hr hlocks hS ((0, u_128.1.2.1, u_128.1.2.2.1, u_128.1.2.2.2.1, u_128.1.2.2.2.2.1, u_128.1.2.2.2.2.2.1, u_128.1.2.2.2.2.2.2), 0, u_116.2.2.1, Nf) rfl rfl ⟨(show (0 ≤ (u_128.1.2.2.1 : Int) ∧ (u_128.1.2.2.1 : Int) ≤ u_128.1.2.2.2.1) ∧ ((u_128.1.2.2.2.1 : Int) ≤ Msz ∧ (Msz : Int) ≤ 900) ∧ (0 ≤ (u_128.1.2.1 : Int) ∧ (u_128.1.2.1 : Int) ≤ 4) ∧ ((u_128.1.2.1 : Int) ≤ 4 * (u_128.1.2.2.2.1 - u_128.1.2.2.1)) ∧ (-1 ≤ (u_128.1.2.2.2.2.1 : Int) ∧ (u_128.1.2.2.2.2.1 : Int) ≤ 100000) from (by first | with_reducible assumption | exact (by first | with_reducible assumption | exact ⟨⟨by omega, by omega⟩, ⟨by omega, by omega⟩, ⟨by omega, by omega⟩, by omega, by omega, by omega⟩))), (show 0 ≤ (u_128.1.2.2.2.2.2.1 : Int) ∧ (u_128.1.2.2.2.2.2.1 : Int) ≤ 9 from (by omega)), (show KP u_116.2.2.1 Af from (KP.tr kp_123 kp_24)), (show ((0 : Int) = 1 ∧ ∃ (q9 : Int) (G9 : Int → Int), xIce (tX Xf Msz) N (gz Af 3560) (gz Af 3561) G cu = (xBn (xTs (tX Xf Msz) 59 q9) fun r9 => .inr (r9, G9)) ∧ cu < q9 ∧ RFX (tX Xf Msz) q9 u_128.1.2.2.1 u_128.1.2.2.2.1 u_128.1.2.1 u_128.1.2.2.2.2.1 ∧ MSX u_116.2.2.1 (gz u_116.2.2.1 3560) (gz u_116.2.2.1 3561) (gz u_116.2.2.1 3562) (gz u_116.2.2.1 3678) F G9 ∧ (gz u_116.2.2.1 3560 = gz Af 3560 ∧ gz u_116.2.2.1 3561 = gz Af 3561 + 1 ∧ gz u_116.2.2.1 3562 = gz Af 3562 ∧ gz u_116.2.2.1 3678 = gz Af 3678) ∧ NSZ u_116.2.2.1 ∧ (u_128.1.2.2.2.2.2.1 : Int) = 0 ∧ u_128.1.2.2.2.2.2.2 = Mfp) ∨ ((0 : Int) = 0 ∧ xIce (tX Xf Msz) N (gz Af 3560) (gz Af 3561) G cu = .inl (u_128.1.2.2.2.2.2.1, u_128.1.2.2.2.2.2.2) ∧ 1 ≤ (u_128.1.2.2.2.2.2.1 : Int)) from (Or.inr ⟨rfl, xIce_l2 (by omega) st_22 (hno.trans st_121) st_132, by omega⟩)), (show Nf = Nf from rfl)⟩ (hP.sub [2, 3, 0, 1] rfl) (hD.sub [2, 3, 0, 1] rfl rfl) dX12_anIce_165
        ·
          rw [qt_121]
          replace p_120 := p_120 qt_121
          have kp_184 : KP u_116.2.2.1 u_17.2.2.1 := p_120
          refine lv_if_ne (tgt := 107) hx hb dX12_anIce_102 rfl (fun c => absurd (by decide) c) (fun _ => ?_)
          refine lv_iconst (v := iZ 0) hx hb dX12_anIce_105 rfl ?_
          exact EWz hx hb hr hlocks hS ((0, u_116.1.2.1, u_116.1.2.2.1, u_116.1.2.2.2.1, u_116.1.2.2.2.2.1, u_116.1.2.2.2.2.2.1, u_116.1.2.2.2.2.2.2), 0, u_116.2.2.1, Nf) rfl rfl ⟨(show (0 ≤ (u_116.1.2.2.1 : Int) ∧ (u_116.1.2.2.1 : Int) ≤ u_116.1.2.2.2.1) ∧ ((u_116.1.2.2.2.1 : Int) ≤ Msz ∧ (Msz : Int) ≤ 900) ∧ (0 ≤ (u_116.1.2.1 : Int) ∧ (u_116.1.2.1 : Int) ≤ 4) ∧ ((u_116.1.2.1 : Int) ≤ 4 * (u_116.1.2.2.2.1 - u_116.1.2.2.1)) ∧ (-1 ≤ (u_116.1.2.2.2.2.1 : Int) ∧ (u_116.1.2.2.2.2.1 : Int) ≤ 100000) from (by first | with_reducible assumption | exact (by first | with_reducible assumption | exact ⟨⟨by omega, by omega⟩, ⟨by omega, by omega⟩, ⟨by omega, by omega⟩, by omega, by omega, by omega⟩))), (show 0 ≤ (u_116.1.2.2.2.2.2.1 : Int) ∧ (u_116.1.2.2.2.2.2.1 : Int) ≤ 9 from (by omega)), (show KP u_116.2.2.1 Af from (KP.tr kp_184 kp_24)), (show ((0 : Int) = 1 ∧ ∃ (q9 : Int) (G9 : Int → Int), xIce (tX Xf Msz) N (gz Af 3560) (gz Af 3561) G cu = (xBn (xTs (tX Xf Msz) 59 q9) fun r9 => .inr (r9, G9)) ∧ cu < q9 ∧ RFX (tX Xf Msz) q9 u_116.1.2.2.1 u_116.1.2.2.2.1 u_116.1.2.1 u_116.1.2.2.2.2.1 ∧ MSX u_116.2.2.1 (gz u_116.2.2.1 3560) (gz u_116.2.2.1 3561) (gz u_116.2.2.1 3562) (gz u_116.2.2.1 3678) F G9 ∧ (gz u_116.2.2.1 3560 = gz Af 3560 ∧ gz u_116.2.2.1 3561 = gz Af 3561 + 1 ∧ gz u_116.2.2.1 3562 = gz Af 3562 ∧ gz u_116.2.2.1 3678 = gz Af 3678) ∧ NSZ u_116.2.2.1 ∧ (u_116.1.2.2.2.2.2.1 : Int) = 0 ∧ u_116.1.2.2.2.2.2.2 = Mfp) ∨ ((0 : Int) = 0 ∧ xIce (tX Xf Msz) N (gz Af 3560) (gz Af 3561) G cu = .inl (u_116.1.2.2.2.2.2.1, u_116.1.2.2.2.2.2.2) ∧ 1 ≤ (u_116.1.2.2.2.2.2.1 : Int)) from (Or.inr ⟨rfl, xIce_l1 (by omega) st_22 (hno.trans st_121), by omega⟩)), (show Nf = Nf from rfl)⟩ (hP.sub [0, 1, 2, 3] rfl) (hD.sub [0, 1, 2, 3] rfl rfl) dX12_anIce_106
    ·
      rw [qt_22]
      replace p_21 := p_21 qt_22
      have kp_186 : KP u_17.2.2.1 Af := p_21
      refine lv_if_ne (tgt := 61) hx hb dX12_anIce_56 rfl (fun c => absurd (by decide) c) (fun _ => ?_)
      refine lv_iconst (v := iZ 0) hx hb dX12_anIce_59 rfl ?_
      exact EWz hx hb hr hlocks hS ((0, u_17.1.2.1, u_17.1.2.2.1, u_17.1.2.2.2.1, u_17.1.2.2.2.2.1, u_17.1.2.2.2.2.2.1, u_17.1.2.2.2.2.2.2), 0, u_17.2.2.1, Nf) rfl rfl ⟨(show (0 ≤ (u_17.1.2.2.1 : Int) ∧ (u_17.1.2.2.1 : Int) ≤ u_17.1.2.2.2.1) ∧ ((u_17.1.2.2.2.1 : Int) ≤ Msz ∧ (Msz : Int) ≤ 900) ∧ (0 ≤ (u_17.1.2.1 : Int) ∧ (u_17.1.2.1 : Int) ≤ 4) ∧ ((u_17.1.2.1 : Int) ≤ 4 * (u_17.1.2.2.2.1 - u_17.1.2.2.1)) ∧ (-1 ≤ (u_17.1.2.2.2.2.1 : Int) ∧ (u_17.1.2.2.2.2.1 : Int) ≤ 100000) from (by first | with_reducible assumption | exact (by first | with_reducible assumption | exact ⟨⟨by omega, by omega⟩, ⟨by omega, by omega⟩, ⟨by omega, by omega⟩, by omega, by omega, by omega⟩))), (show 0 ≤ (u_17.1.2.2.2.2.2.1 : Int) ∧ (u_17.1.2.2.2.2.2.1 : Int) ≤ 9 from (by omega)), (show KP u_17.2.2.1 Af from kp_186), (show ((0 : Int) = 1 ∧ ∃ (q9 : Int) (G9 : Int → Int), xIce (tX Xf Msz) N (gz Af 3560) (gz Af 3561) G cu = (xBn (xTs (tX Xf Msz) 59 q9) fun r9 => .inr (r9, G9)) ∧ cu < q9 ∧ RFX (tX Xf Msz) q9 u_17.1.2.2.1 u_17.1.2.2.2.1 u_17.1.2.1 u_17.1.2.2.2.2.1 ∧ MSX u_17.2.2.1 (gz u_17.2.2.1 3560) (gz u_17.2.2.1 3561) (gz u_17.2.2.1 3562) (gz u_17.2.2.1 3678) F G9 ∧ (gz u_17.2.2.1 3560 = gz Af 3560 ∧ gz u_17.2.2.1 3561 = gz Af 3561 + 1 ∧ gz u_17.2.2.1 3562 = gz Af 3562 ∧ gz u_17.2.2.1 3678 = gz Af 3678) ∧ NSZ u_17.2.2.1 ∧ (u_17.1.2.2.2.2.2.1 : Int) = 0 ∧ u_17.1.2.2.2.2.2.2 = Mfp) ∨ ((0 : Int) = 0 ∧ xIce (tX Xf Msz) N (gz Af 3560) (gz Af 3561) G cu = .inl (u_17.1.2.2.2.2.2.1, u_17.1.2.2.2.2.2.2) ∧ 1 ≤ (u_17.1.2.2.2.2.2.1 : Int)) from (Or.inr ⟨rfl, xIce_l0 (by omega) st_22, by omega⟩)), (show Nf = Nf from rfl)⟩ (hP.sub [0, 1, 2, 3] rfl) (hD.sub [0, 1, 2, 3] rfl rfl) dX12_anIce_60
  ·
    have c_10 := (zeq (x := iZ (gz Af 3561)) (y := iZ 8) rfl rfl (gz_rg Af 3561) wn_8).mp c_10
    refine lv_aload_n hx hb dX12_anIce_37 rfl (lv_at hl 2 rfl) ?_
    refine lv_bipush (v := iZ 6) hx hb dX12_anIce_38 bip_6 ?_
    refine CWV (As := [.int (iZ 6)]) (rest := []) (wc := _) (wr := [(Ma, .inl (k 1, 5340, .inl Af)), (Mn, .inl (k 2, 36, .inr (.inl Nf)))]) hx hb hml hown hts hKK hP hD hS hA (y_fails l D k hm Ma Mn Ms My Mt Mp Mx Mo Mk Ml Mb Mh Mc Mz Mr Mq Mst Mtd Msz Mtk Mfr Men Mva Mfk Mfp Mfs Mse Mlt Mdp Mct Mdr Mrs Mit Mmk Mtp Mbt Xf 6 cu ⟨by omega, by omega⟩ (by omega) hrf) ci_X12_fails qm_X12_164 ⟨Nat.le_of_ble_eq_true rfl, Nat.le_of_ble_eq_true rfl⟩ ⟨Nat.le_of_ble_eq_true rfl, Nat.le_of_ble_eq_true rfl⟩ [0, 1] [2, 3] rfl rfl rfl rfl rfl (dj rfl) 0 rfl rfl rfl hl.1 rfl (Nat.le_of_ble_eq_true rfl) dX12_anIce_40 (fun u_188 H locs hφ hP hD hS => ?_)
    obtain ⟨p_189, p_190⟩ : (u_188.1.2.1 = xFl (tX Xf Msz) cu 6 ∧ u_188.1.2.2 = xPl (tX Xf Msz) cu) ∧ (1 ≤ (u_188.1.2.1 : Int) ∧ (u_188.1.2.1 : Int) ≤ 9) := hφ
    refine W.eq (g2 := F0 m 43 ls [.int (iZ 0)]) rfl ?_
    exact EWz hx hb hr hlocks hS ((0, Mtk, Mfr, Men, Mva, u_188.1.2.1, u_188.1.2.2), 0, Af, Nf) rfl rfl ⟨(show (0 ≤ (Mfr : Int) ∧ (Mfr : Int) ≤ Men) ∧ ((Men : Int) ≤ Msz ∧ (Msz : Int) ≤ 900) ∧ (0 ≤ (Mtk : Int) ∧ (Mtk : Int) ≤ 4) ∧ ((Mtk : Int) ≤ 4 * (Men - Mfr)) ∧ (-1 ≤ (Mva : Int) ∧ (Mva : Int) ≤ 100000) from (by first | with_reducible assumption | exact (by first | with_reducible assumption | exact ⟨⟨by omega, by omega⟩, ⟨by omega, by omega⟩, ⟨by omega, by omega⟩, by omega, by omega, by omega⟩))), (show 0 ≤ (u_188.1.2.1 : Int) ∧ (u_188.1.2.1 : Int) ≤ 9 from (by omega)), (show KP Af Af from (KP.rf Af)), (show ((0 : Int) = 1 ∧ ∃ (q9 : Int) (G9 : Int → Int), xIce (tX Xf Msz) N (gz Af 3560) (gz Af 3561) G cu = (xBn (xTs (tX Xf Msz) 59 q9) fun r9 => .inr (r9, G9)) ∧ cu < q9 ∧ RFX (tX Xf Msz) q9 Mfr Men Mtk Mva ∧ MSX Af (gz Af 3560) (gz Af 3561) (gz Af 3562) (gz Af 3678) F G9 ∧ (gz Af 3560 = gz Af 3560 ∧ gz Af 3561 = gz Af 3561 + 1 ∧ gz Af 3562 = gz Af 3562 ∧ gz Af 3678 = gz Af 3678) ∧ NSZ Af ∧ (u_188.1.2.1 : Int) = 0 ∧ u_188.1.2.2 = Mfp) ∨ ((0 : Int) = 0 ∧ xIce (tX Xf Msz) N (gz Af 3560) (gz Af 3561) G cu = .inl (u_188.1.2.1, u_188.1.2.2) ∧ 1 ≤ (u_188.1.2.1 : Int)) from (Or.inr ⟨rfl, xIce_8 (by omega) p_189, by omega⟩)), (show Nf = Nf from rfl)⟩ (hP.sub [2, 3, 0, 1] rfl) (hD.sub [2, 3, 0, 1] rfl rfl) dX12_anIce_43
end
