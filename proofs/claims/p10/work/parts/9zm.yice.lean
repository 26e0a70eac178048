set_option maxHeartbeats 4000000 in
set_option maxRecDepth 100000 in
theorem y_anIce (l : Launch) (D : va_G) (k : Nat → ClassId) (sa sv : Nat) (hm : Nat) (Ma : Nat) (Mn : Nat) (Ms : Nat) (My : Nat) (Mt : Nat) (Mp : Nat) (Mx : Nat) (Mo : Nat) (Mk : Nat) (Ml : Nat) (Mb : Nat) (Mh : Nat) (Mc : Nat) (Mz : Nat) (Mr : Nat) (Mq : Nat) (Mst : Int) (Mtd : Int) (Msz : Int) (Mtk : Int) (Mfr : Int) (Men : Int) (Mva : Int) (Mfk : Int) (Mfp : Int) (Mfs : Int) (Mse : Int) (Mlt : Int) (Mdp : Int) (Mct : Int) (Mdr : Int) (Mrs : Int) (Mit : Int) (Mmk : Int) (Mtp : Int64) (Mbt : Int64) (Xf : Nat → Int32) (Af : Nat → Int32) (Nf : Nat → Int64) (cu : Int) (N : Int → Int) (F : Int → Int) (G : Int → Int) (hTI : (0 ≤ (Mfr : Int) ∧ (Mfr : Int) ≤ Men) ∧ ((Men : Int) ≤ Msz ∧ (Msz : Int) ≤ 900) ∧ (0 ≤ (Mtk : Int) ∧ (Mtk : Int) ≤ 4) ∧ ((Mtk : Int) = 0 ∨ (Mfr : Int) < Men) ∧ (-1 ≤ (Mva : Int) ∧ (Mva : Int) ≤ 100000)) (hf0 : Mfs = 0) (hrf : RFX (tX Xf Msz) cu Mfr Men Mtk Mva) (hNZ : NSZ Af) (htw : Mtk = 2) (hms : MSX Af (gz Af 3560) (gz Af 3561) (gz Af 3562) (gz Af 3678) F G) (hns : xNr Nf 24 N (gz Af 3560)) : SD (σ := ((Nat → Int) × (Nat → Int64) × (Nat → Nat → Int32) × (Nat → Nat → Int64))) sa sv l yX12_anIce cX12_anIce 3 (some .boolean) 7 D k [.ref hm] [(hm, .inr (12, [.ref Ma, .ref Mn, .int (iZ Mst), .long Mtp, .long Mbt, .ref Ms, .ref My, .ref Mt, .ref Mp, .ref Mx, .int (iZ Mtd), .int (iZ Msz), .int (iZ Mtk), .int (iZ Mfr), .int (iZ Men), .int (iZ Mva), .int (iZ Mfk), .int (iZ Mfp), .int (iZ Mfs), .int (iZ Mse), .int (iZ Mlt), .ref Mo, .int (iZ Mdp), .int (iZ Mct), .ref Mk, .ref Ml, .ref Mb, .ref Mh, .ref Mc, .int (iZ Mdr), .int (iZ Mrs), .ref Mz, .ref Mr, .ref Mq, .int (iZ Mit), .int (iZ Mmk)])), (Mx, .inl (k 0, 900, .inl Xf)), (Ma, .inl (k 1, 5340, .inl Af)), (Mn, .inl (k 2, 36, .inr (.inl Nf)))] (fun u => some (.int (iZ (u.1 0)))) (fun u => ((0 ≤ ((u.1 2) : Int) ∧ ((u.1 2) : Int) ≤ (u.1 3)) ∧ (((u.1 3) : Int) ≤ Msz ∧ (Msz : Int) ≤ 900) ∧ (0 ≤ ((u.1 1) : Int) ∧ ((u.1 1) : Int) ≤ 4) ∧ (((u.1 1) : Int) = 0 ∨ ((u.1 2) : Int) < (u.1 3)) ∧ (-1 ≤ ((u.1 4) : Int) ∧ ((u.1 4) : Int) ≤ 100000)) ∧ (0 ≤ ((u.1 5) : Int) ∧ ((u.1 5) : Int) ≤ 9) ∧ (KP (u.2.2.1 0) Af) ∧ ((((u.1 0) : Int) = 1 ∧ ∃ (q9 : Int) (G9 : Int → Int), xIce (tX Xf Msz) N (gz Af 3560) (gz Af 3561) G cu = (xBn (xTs (tX Xf Msz) 59 q9) fun r9 => .inr (r9, G9)) ∧ cu < q9 ∧ RFX (tX Xf Msz) q9 (u.1 2) (u.1 3) (u.1 1) (u.1 4) ∧ MSX (u.2.2.1 0) (gz (u.2.2.1 0) 3560) (gz (u.2.2.1 0) 3561) (gz (u.2.2.1 0) 3562) (gz (u.2.2.1 0) 3678) F G9 ∧ (gz (u.2.2.1 0) 3560 = gz Af 3560 ∧ gz (u.2.2.1 0) 3561 = gz Af 3561 + 1 ∧ gz (u.2.2.1 0) 3562 = gz Af 3562 ∧ gz (u.2.2.1 0) 3678 = gz Af 3678) ∧ NSZ (u.2.2.1 0) ∧ ((u.1 5) : Int) = 0 ∧ (u.1 6) = Mfp) ∨ (((u.1 0) : Int) = 0 ∧ xIce (tX Xf Msz) N (gz Af 3560) (gz Af 3561) G cu = .inl ((u.1 5), (u.1 6)) ∧ 1 ≤ ((u.1 5) : Int))) ∧ ((u.2.2.2 0) = Nf)) (fun u => [(hm, .inr (12, [.ref Ma, .ref Mn, .int (iZ Mst), .long Mtp, .long Mbt, .ref Ms, .ref My, .ref Mt, .ref Mp, .ref Mx, .int (iZ Mtd), .int (iZ Msz), .int (iZ (u.1 1)), .int (iZ (u.1 2)), .int (iZ (u.1 3)), .int (iZ (u.1 4)), .int (iZ Mfk), .int (iZ (u.1 6)), .int (iZ (u.1 5)), .int (iZ Mse), .int (iZ Mlt), .ref Mo, .int (iZ Mdp), .int (iZ Mct), .ref Mk, .ref Ml, .ref Mb, .ref Mh, .ref Mc, .int (iZ Mdr), .int (iZ Mrs), .ref Mz, .ref Mr, .ref Mq, .int (iZ Mit), .int (iZ Mmk)])), (Mx, .inl (k 0, 900, .inl Xf)), (Ma, .inl (k 1, 5340, .inl (u.2.2.1 0))), (Mn, .inl (k 2, 36, .inr (.inl (u.2.2.2 0))))]) := by
  refine MSS (by decide) (Nat.le_of_ble_eq_true rfl) (fun p e s m below meth c ls A hx hb hml hr hlocks hin hts hown hKK hP hD hS hA hSY hRR hl => ?_)
  have hK := hKK.1
  have hl : lv_has ls 3 [(0, .ref hm)] := hl
  obtain ⟨⟨ar_1, br_1⟩, cr_1, dr_1, er_1, gr_1, hr_1⟩ := id hrf
  have kr_1 := tk_1 dr_1 (xKd_rg _ _)
  have wr_1 := xKw_rg (tX Xf Msz) cu
  replace kr_1 : Unit → _ := fun _ => kr_1
  replace er_1 : Unit → _ := fun _ => er_1
  replace gr_1 : Unit → _ := fun _ => gr_1
  replace hr_1 : Unit → _ := fun _ => hr_1
  obtain ⟨nz0, nz1, nz3, nz4, nz5, nzS⟩ := id hNZ
  refine lv_sipush (v := iZ 3606) hx hb dX12_anIce_0 (by decide) ?_
  refine lv_iconst (v := iZ 4) hx hb dX12_anIce_3 (by decide) ?_
  refine lv_aload_n hx hb dX12_anIce_4 rfl (lv_at hl 0 rfl) ?_
  refine va_get (D := D) (ci := 12) (v := .ref Ma) (C := RX12) (T := TX12) (N := 36) hx hb hts iX12 hown hK hP 0 rfl rfl 0 (by decide) (hts _ qf_X12_7) (fun _ h => h) rfl dX12_anIce_5 ?_
  refine lv_sipush (v := iZ 3561) hx hb dX12_anIce_8 (by decide) ?_
  refine va_iald hx hb hK hP 2 1 rfl rfl (zin (e := 3561) (n := 5340) ⟨by omega, by omega⟩ (by decide)) dX12_anIce_11 ?_
  refine lv_topi (fun x_2 ex_2 => ?_)
  obtain rfl : x_2 = iZ (gz Af 3561) := ex_2.trans (gz_eq ⟨by omega, by omega⟩)
  have h_3 := gz_rg Af 3561
  refine lv_imul hx hb dX12_anIce_12 ?_
  refine lv_topi (fun x_4 ex_4 => ?_)
  obtain rfl : x_4 = iZ (4 * (gz Af 3561)) := ex_4.trans (iZ_mul 4 (gz Af 3561))
  refine lv_iadd hx hb dX12_anIce_13 ?_
  refine lv_topi (fun x_5 ex_5 => ?_)
  obtain rfl : x_5 = iZ (3606 + (4 * (gz Af 3561))) := ex_5.trans (iZ_add 3606 (4 * (gz Af 3561)))
  refine lv_istore_n (lv' := [(1, .int (iZ (3606 + (4 * (gz Af 3561))))), (0, .ref hm)]) hx hb dX12_anIce_14 rfl hl (by decide) rfl (fun ls hl => ?_)
  refine lv_aload_n hx hb dX12_anIce_15 rfl (lv_at hl 1 rfl) ?_
  refine va_get (D := D) (ci := 12) (v := .ref Ma) (C := RX12) (T := TX12) (N := 36) hx hb hts iX12 hown hK hP 0 rfl rfl 0 (by decide) (hts _ qf_X12_7) (fun _ h => h) rfl dX12_anIce_16 ?_
  refine lv_sipush (v := iZ 3560) hx hb dX12_anIce_19 (by decide) ?_
  refine va_iald hx hb hK hP 2 1 rfl rfl (zin (e := 3560) (n := 5340) ⟨by omega, by omega⟩ (by decide)) dX12_anIce_22 ?_
  refine lv_topi (fun x_6 ex_6 => ?_)
  obtain rfl : x_6 = iZ (gz Af 3560) := ex_6.trans (gz_eq ⟨by omega, by omega⟩)
  have h_7 := gz_rg Af 3560
  refine lv_istore_n (lv' := [(2, .int (iZ (gz Af 3560))), (1, .int (iZ (3606 + (4 * (gz Af 3561))))), (0, .ref hm)]) hx hb dX12_anIce_23 rfl hl (by decide) rfl (fun ls hl => ?_)
  refine lv_aload_n hx hb dX12_anIce_24 rfl (lv_at hl 2 rfl) ?_
  refine va_get (D := D) (ci := 12) (v := .ref Ma) (C := RX12) (T := TX12) (N := 36) hx hb hts iX12 hown hK hP 0 rfl rfl 0 (by decide) (hts _ qf_X12_7) (fun _ h => h) rfl dX12_anIce_25 ?_
  refine lv_sipush (v := iZ 3561) hx hb dX12_anIce_28 (by decide) ?_
  refine va_iald hx hb hK hP 2 1 rfl rfl (zin (e := 3561) (n := 5340) ⟨by omega, by omega⟩ (by decide)) dX12_anIce_31 ?_
  refine lv_topi (fun x_8 ex_8 => ?_)
  obtain rfl : x_8 = iZ (gz Af 3561) := ex_8.trans (gz_eq ⟨by omega, by omega⟩)
  have h_9 := gz_rg Af 3561
  refine lv_bipush (v := iZ 8) hx hb dX12_anIce_32 (by decide) ?_
  refine lv_icmp_ne (tgt := 44) hx hb dX12_anIce_34 (by decide) (fun c_10 => ?_) (fun c_10 => ?_)
  ·
    have c_10 := mt (zeq (x := iZ (gz Af 3561)) (y := iZ 8) rfl rfl ⟨by omega, by omega⟩ ⟨by omega, by omega⟩).mpr c_10
    refine lv_aload_n hx hb dX12_anIce_44 rfl (lv_at hl 2 rfl) ?_
    refine CWV (As := []) (rest := []) (wc := [(hm, .inr (12, [.ref Ma, .ref Mn, .int (iZ Mst), .long Mtp, .long Mbt, .ref Ms, .ref My, .ref Mt, .ref Mp, .ref Mx, .int (iZ Mtd), .int (iZ Msz), .int (iZ Mtk), .int (iZ Mfr), .int (iZ Men), .int (iZ Mva), .int (iZ Mfk), .int (iZ Mfp), .int (iZ Mfs), .int (iZ Mse), .int (iZ Mlt), .ref Mo, .int (iZ Mdp), .int (iZ Mct), .ref Mk, .ref Ml, .ref Mb, .ref Mh, .ref Mc, .int (iZ Mdr), .int (iZ Mrs), .ref Mz, .ref Mr, .ref Mq, .int (iZ Mit), .int (iZ Mmk)])), (Mx, .inl (k 0, 900, .inl Xf))]) (wr := [(Ma, .inl (k 1, 5340, .inl Af)), (Mn, .inl (k 2, 36, .inr (.inl Nf)))]) hx hb hml hown hts hKK hP hD hS hA (y_onward l D k hm Ma Mn Ms My Mt Mp Mx Mo Mk Ml Mb Mh Mc Mz Mr Mq Mst Mtd Msz Mtk Mfr Men Mva Mfk Mfp Mfs Mse Mlt Mdp Mct Mdr Mrs Mit Mmk Mtp Mbt Xf ⟨⟨by omega, by omega⟩, by omega⟩) ci_X12_onward qm_X12_158 ⟨Nat.le_of_ble_eq_true rfl, Nat.le_of_ble_eq_true rfl⟩ ⟨Nat.le_of_ble_eq_true rfl, Nat.le_of_ble_eq_true rfl⟩ [0, 1] [2, 3] rfl rfl rfl rfl rfl (by decide) 0 rfl rfl rfl hl.1 rfl (Nat.le_of_ble_eq_true rfl) dX12_anIce_45 (fun u_11 H locs hφ hP hD hS => ?_)
    obtain ⟨I_12, L_13, F_14, G_15⟩ := u_11
    obtain ⟨p_17, p_18, p_19⟩ : (RFX (tX Xf Msz) Men (I_12 2) (I_12 3) (I_12 1) (I_12 4)) ∧ ((0 ≤ ((I_12 2) : Int) ∧ ((I_12 2) : Int) ≤ (I_12 3)) ∧ (((I_12 3) : Int) ≤ Msz ∧ (Msz : Int) ≤ 900) ∧ (0 ≤ ((I_12 1) : Int) ∧ ((I_12 1) : Int) ≤ 4) ∧ (((I_12 1) : Int) = 0 ∨ ((I_12 2) : Int) < (I_12 3)) ∧ (-1 ≤ ((I_12 4) : Int) ∧ ((I_12 4) : Int) ≤ 100000)) ∧ (Men ≤ (I_12 2)) := hφ
    have rx_20 := RFX.nx hrf p_17
    obtain ⟨⟨ar_21, br_21⟩, cr_21, dr_21, er_21, gr_21, hr_21⟩ := id rx_20
    have kr_21 := tk_1 dr_21 (xKd_rg _ _)
    have wr_21 := xKw_rg (tX Xf Msz) (xEn (tX Xf Msz) cu)
    replace kr_21 : Unit → _ := fun _ => kr_21
    replace er_21 : Unit → _ := fun _ => er_21
    replace gr_21 : Unit → _ := fun _ => gr_21
    replace hr_21 : Unit → _ := fun _ => hr_21
    refine W.eq (g2 := F0 m 48 ls []) rfl ?_
    refine lv_aload_n hx hb dX12_anIce_48 rfl (lv_at hl 2 rfl) ?_
    refine lv_bipush (v := iZ 24) hx hb dX12_anIce_49 (by decide) ?_
    refine lv_iload_n hx hb dX12_anIce_51 rfl (lv_at hl 0 rfl) ?_
    refine lv_iload_n hx hb dX12_anIce_52 rfl (lv_at hl 1 rfl) ?_
    refine CSV (As := [.int (iZ 24), .int (iZ (gz Af 3560)), .int (iZ (3606 + (4 * (gz Af 3561))))]) (rest := []) (wc := [(hm, .inr (12, [.ref Ma, .ref Mn, .int (iZ Mst), .long Mtp, .long Mbt, .ref Ms, .ref My, .ref Mt, .ref Mp, .ref Mx, .int (iZ Mtd), .int (iZ Msz), .int (iZ (I_12 1)), .int (iZ (I_12 2)), .int (iZ (I_12 3)), .int (iZ (I_12 4)), .int (iZ Mfk), .int (iZ Mfp), .int (iZ Mfs), .int (iZ Mse), .int (iZ Mlt), .ref Mo, .int (iZ Mdp), .int (iZ Mct), .ref Mk, .ref Ml, .ref Mb, .ref Mh, .ref Mc, .int (iZ Mdr), .int (iZ Mrs), .ref Mz, .ref Mr, .ref Mq, .int (iZ Mit), .int (iZ Mmk)])), (Mx, .inl (k 0, 900, .inl Xf)), (Ma, .inl (k 1, 5340, .inl Af)), (Mn, .inl (k 2, 36, .inr (.inl Nf)))]) (wr := []) hx hb hml hown hts hKK hP hD hS hA hSY hRR (y_oldOne l D k sa sv hm Ma Mn Ms My Mt Mp Mx Mo Mk Ml Mb Mh Mc Mz Mr Mq Mst Mtd Msz (I_12 1) (I_12 2) (I_12 3) (I_12 4) Mfk Mfp Mfs Mse Mlt Mdp Mct Mdr Mrs Mit Mmk Mtp Mbt Xf Af Nf 24 (gz Af 3560) (3606 + (4 * (gz Af 3561))) (xEn (tX Xf Msz) cu) N (by first | with_reducible assumption | exact ⟨⟨by omega, by omega⟩, ⟨by omega, by omega⟩, ⟨by omega, by omega⟩, by omega, by omega, by omega⟩) (by omega) rx_20 ⟨by omega, by omega⟩ ⟨by omega, by omega⟩ ⟨by omega, by omega⟩ hns) ci_X12_oldOne qm_X12_195 ⟨Nat.le_of_ble_eq_true rfl, Nat.le_of_ble_eq_true rfl⟩ ⟨Nat.le_of_ble_eq_true rfl, Nat.le_of_ble_eq_true rfl⟩ [2, 3, 0, 1] [] rfl rfl rfl rfl rfl (by decide) 0 rfl rfl rfl hl.1 rfl (Nat.le_of_ble_eq_true rfl) dX12_anIce_53 (fun u_22 H locs hφ hP hD hS => ?_)
    obtain ⟨I_23, L_24, F_25, G_26⟩ := u_22
    obtain ⟨p_28, p_29, p_30, p_31⟩ : ((0 ≤ ((I_23 2) : Int) ∧ ((I_23 2) : Int) ≤ (I_23 3)) ∧ (((I_23 3) : Int) ≤ Msz ∧ (Msz : Int) ≤ 900) ∧ (0 ≤ ((I_23 1) : Int) ∧ ((I_23 1) : Int) ≤ 4) ∧ (((I_23 1) : Int) = 0 ∨ ((I_23 2) : Int) < (I_23 3)) ∧ (-1 ≤ ((I_23 4) : Int) ∧ ((I_23 4) : Int) ≤ 100000)) ∧ (0 ≤ ((I_23 5) : Int) ∧ ((I_23 5) : Int) ≤ 9) ∧ ((((I_23 0) : Int) = 1 ∧ ∃ (q9 v9 : Int), xTr (tX Xf Msz) N (gz Af 3560) (-1) (xEn (tX Xf Msz) cu) = .inr (q9, v9) ∧ (xEn (tX Xf Msz) cu) < q9 ∧ RFX (tX Xf Msz) q9 (I_23 2) (I_23 3) (I_23 1) (I_23 4) ∧ (0 ≤ v9 ∧ v9 < (gz Af 3560)) ∧ (F_25 0) = upd Af (iZ (3606 + (4 * (gz Af 3561)))).toNatClampNeg (iZ v9) ∧ ((I_23 5) : Int) = 0 ∧ (I_23 6) = Mfp) ∨ (((I_23 0) : Int) = 0 ∧ xTr (tX Xf Msz) N (gz Af 3560) (-1) (xEn (tX Xf Msz) cu) = .inl ((I_23 5), (I_23 6)) ∧ 1 ≤ ((I_23 5) : Int))) ∧ (((I_23 0) : Int) = 0 → KP (F_25 0) Af) := hφ
    refine W.eq (g2 := F0 m 56 ls [.int (iZ (I_23 0))]) rfl ?_
    rcases p_30 with ⟨qt_32, cut_32, yt_32, st_32, lt_32, xt_32, rt_32, ht_32, ut_32, vt_32⟩ | ⟨qt_32, st_32, bt_32⟩
    ·
      rw [qt_32]
      obtain ⟨⟨ar_33, br_33⟩, cr_33, dr_33, er_33, gr_33, hr_33⟩ := id xt_32
      have kr_33 := tk_1 dr_33 (xKd_rg _ _)
      have wr_33 := xKw_rg (tX Xf Msz) cut_32
      replace kr_33 : Unit → _ := fun _ => kr_33
      replace er_33 : Unit → _ := fun _ => er_33
      replace gr_33 : Unit → _ := fun _ => gr_33
      replace hr_33 : Unit → _ := fun _ => hr_33
      clear p_31
      have kp_34 := KP.up ht_32 ⟨by omega, by omega⟩ ⟨by omega, by omega⟩
      have ns_35 := NSZ.far hNZ ht_32 (Or.inl ⟨by omega, by omega⟩) ⟨by omega, by omega⟩
      have ms_36 := MSX.ic hms ht_32 (by omega) (by omega) (by omega)
      have q0gv_37 : gz (F_25 0) 3560 = gz Af 3560 := by have c9 := gz_upc (j := 3560) ht_32 ⟨by omega, by omega⟩ ⟨by omega, by omega⟩ (by omega); omega
      have q1gv_37 : gz (F_25 0) 3561 = gz Af 3561 := by have c9 := gz_upc (j := 3561) ht_32 ⟨by omega, by omega⟩ ⟨by omega, by omega⟩ (by omega); omega
      have v0gv_37 : gz (F_25 0) (3606 + (4 * (gz Af 3561))) = yt_32 := by have c9 := gz_upc (j := (3606 + (4 * (gz Af 3561)))) ht_32 ⟨by omega, by omega⟩ ⟨by omega, by omega⟩ (by omega); omega
      obtain ⟨z0gv_37, z1gv_37, z3gv_37, z4gv_37, z5gv_37, zSgv_37⟩ := id ns_35
      refine lv_if_ne (tgt := 61) hx hb dX12_anIce_56 (by decide) (fun _ => ?_) (fun c => absurd c (by decide))
      refine lv_aload_n hx hb dX12_anIce_61 rfl (lv_at hl 2 rfl) ?_
      refine va_ldcS hx hb hown hRR dX12_anIce_62 ?_
      refine CSV (As := [.ref sa]) (rest := []) (wc := [(hm, .inr (12, [.ref Ma, .ref Mn, .int (iZ Mst), .long Mtp, .long Mbt, .ref Ms, .ref My, .ref Mt, .ref Mp, .ref Mx, .int (iZ Mtd), .int (iZ Msz), .int (iZ (I_23 1)), .int (iZ (I_23 2)), .int (iZ (I_23 3)), .int (iZ (I_23 4)), .int (iZ Mfk), .int (iZ (I_23 6)), .int (iZ (I_23 5)), .int (iZ Mse), .int (iZ Mlt), .ref Mo, .int (iZ Mdp), .int (iZ Mct), .ref Mk, .ref Ml, .ref Mb, .ref Mh, .ref Mc, .int (iZ Mdr), .int (iZ Mrs), .ref Mz, .ref Mr, .ref Mq, .int (iZ Mit), .int (iZ Mmk)])), (Mx, .inl (k 0, 900, .inl Xf))]) (wr := [(Ma, .inl (k 1, 5340, .inl (F_25 0))), (Mn, .inl (k 2, 36, .inr (.inl Nf)))]) hx hb hml hown hts hKK hP hD hS hA hSY hRR (y_isName l D k sa sv ([.ref Ma, .ref Mn, .int (iZ Mst), .long Mtp, .long Mbt, .ref Ms, .ref My, .ref Mt, .ref Mp, .ref Mx, .int (iZ Mtd), .int (iZ Msz), .int (iZ (I_23 1)), .int (iZ (I_23 2)), .int (iZ (I_23 3)), .int (iZ (I_23 4)), .int (iZ Mfk), .int (iZ (I_23 6)), .int (iZ (I_23 5)), .int (iZ Mse), .int (iZ Mlt), .ref Mo, .int (iZ Mdp), .int (iZ Mct), .ref Mk, .ref Ml, .ref Mb, .ref Mh, .ref Mc, .int (iZ Mdr), .int (iZ Mrs), .ref Mz, .ref Mr, .ref Mq, .int (iZ Mit), .int (iZ Mmk)]) hm Mx Msz (I_23 1) (I_23 2) (I_23 3) Xf cut_32 rfl rfl rfl rfl rfl ⟨⟨⟨by omega, by omega⟩, by omega, by omega⟩, by omega, by omega⟩ ⟨⟨br_33, cr_33⟩, dr_33, gr_33 ()⟩) ci_X12_isName qm_X12_177 ⟨Nat.le_of_ble_eq_true rfl, Nat.le_of_ble_eq_true rfl⟩ ⟨Nat.le_of_ble_eq_true rfl, Nat.le_of_ble_eq_true rfl⟩ [0, 1] [2, 3] rfl rfl rfl rfl rfl (by decide) 0 rfl rfl rfl hl.1 rfl (Nat.le_of_ble_eq_true rfl) dX12_anIce_64 (fun u_39 H locs hφ hP hD hS => ?_)
      obtain ⟨I_40, L_41, F_42, G_43⟩ := u_39
      have p_45 : (((I_40 0) : Int) = 1 ∧ xIn (tX Xf Msz) cut_32) ∨ (((I_40 0) : Int) = 0 ∧ ¬ xIn (tX Xf Msz) cut_32) := hφ
      refine W.eq (g2 := F0 m 67 ls [.int (iZ (I_40 0))]) rfl ?_
      rcases p_45 with ⟨qt_46, it_46⟩ | ⟨qt_46, it_46⟩
      ·
        rw [qt_46]
        have lnn_47 := mt (xNm_m1 (T := (tX Xf Msz)) (p := cut_32) ((gr_33 ()) (by have h8 := kr_33 (); have := it_46.1; omega)) (by omega)).mpr it_46.2.2
        have tnn_47 : xLet (tX Xf Msz) (I_23 2) ((I_23 3) - (I_23 2)).toNat := by have h9 := (gr_33 ()) (by have h8 := kr_33 (); have := it_46.1; omega); unfold xLn at h9; rw [← br_33, ← cr_33] at h9; exact h9
        have nnn_47 : xNm (tX Xf Msz) cut_32 = xCd (tX Xf Msz) (I_23 2) ((I_23 3) - (I_23 2)).toNat := by unfold xNm xCw; rw [if_pos (by omega), ← br_33, ← cr_33]
        refine lv_if_eq (tgt := 92) hx hb dX12_anIce_67 (by decide) (fun c => absurd c (by decide)) (fun _ => ?_)
        refine lv_aload_n hx hb dX12_anIce_70 rfl (lv_at hl 2 rfl) ?_
        refine lv_bipush (v := iZ 24) hx hb dX12_anIce_71 (by decide) ?_
        refine lv_iload_n hx hb dX12_anIce_73 rfl (lv_at hl 0 rfl) ?_
        refine CWV (As := [.int (iZ 24), .int (iZ (gz Af 3560))]) (rest := []) (wc := [(hm, .inr (12, [.ref Ma, .ref Mn, .int (iZ Mst), .long Mtp, .long Mbt, .ref Ms, .ref My, .ref Mt, .ref Mp, .ref Mx, .int (iZ Mtd), .int (iZ Msz), .int (iZ (I_23 1)), .int (iZ (I_23 2)), .int (iZ (I_23 3)), .int (iZ (I_23 4)), .int (iZ Mfk), .int (iZ (I_23 6)), .int (iZ (I_23 5)), .int (iZ Mse), .int (iZ Mlt), .ref Mo, .int (iZ Mdp), .int (iZ Mct), .ref Mk, .ref Ml, .ref Mb, .ref Mh, .ref Mc, .int (iZ Mdr), .int (iZ Mrs), .ref Mz, .ref Mr, .ref Mq, .int (iZ Mit), .int (iZ Mmk)])), (Mx, .inl (k 0, 900, .inl Xf)), (Mn, .inl (k 2, 36, .inr (.inl Nf)))]) (wr := [(Ma, .inl (k 1, 5340, .inl (F_25 0)))]) hx hb hml hown hts hKK hP hD hS hA (y_findHere l D k ([.ref Ma, .ref Mn, .int (iZ Mst), .long Mtp, .long Mbt, .ref Ms, .ref My, .ref Mt, .ref Mp, .ref Mx, .int (iZ Mtd), .int (iZ Msz), .int (iZ (I_23 1)), .int (iZ (I_23 2)), .int (iZ (I_23 3)), .int (iZ (I_23 4)), .int (iZ Mfk), .int (iZ (I_23 6)), .int (iZ (I_23 5)), .int (iZ Mse), .int (iZ Mlt), .ref Mo, .int (iZ Mdp), .int (iZ Mct), .ref Mk, .ref Ml, .ref Mb, .ref Mh, .ref Mc, .int (iZ Mdr), .int (iZ Mrs), .ref Mz, .ref Mr, .ref Mq, .int (iZ Mit), .int (iZ Mmk)]) hm Mx Mn Msz (I_23 2) (I_23 3) 24 (gz Af 3560) cut_32 Xf Nf N rfl rfl rfl rfl rfl ⟨⟨by omega, by omega⟩, by omega, by omega⟩ ⟨by omega, tnn_47⟩ ⟨by omega, by omega⟩ ⟨by omega, by omega⟩ ⟨hns, nnn_47⟩) ci_X12_findHere qm_X12_181 ⟨Nat.le_of_ble_eq_true rfl, Nat.le_of_ble_eq_true rfl⟩ ⟨Nat.le_of_ble_eq_true rfl, Nat.le_of_ble_eq_true rfl⟩ [2, 3, 1] [0] rfl rfl rfl rfl rfl (by decide) 0 rfl rfl rfl hl.1 rfl (Nat.le_of_ble_eq_true rfl) dX12_anIce_74 (fun u_49 H locs hφ hP hD hS => ?_)
        obtain ⟨I_50, L_51, F_52, G_53⟩ := u_49
        obtain ⟨p_55, p_56⟩ : ((I_50 0) = xFn N (gz Af 3560) (xNm (tX Xf Msz) cut_32)) ∧ (-1 ≤ (I_50 0) ∧ ((I_50 0) < (gz Af 3560) ∨ (I_50 0) = -1)) := hφ
        refine W.eq (g2 := F0 m 77 ls [.int (iZ (I_50 0))]) rfl ?_
        refine lv_aload_n hx hb dX12_anIce_77 rfl (lv_at hl 2 rfl) ?_
        refine va_get (D := D) (ci := 12) (v := .ref Ma) (C := RX12) (T := TX12) (N := 36) hx hb hts iX12 hown hK hP 1 rfl rfl 0 (by decide) (hts _ qf_X12_7) (fun _ h => h) rfl dX12_anIce_78 ?_
        refine lv_iload_n hx hb dX12_anIce_81 rfl (lv_at hl 1 rfl) ?_
        refine va_iald hx hb hK hP 0 1 rfl rfl (zin (e := (3606 + (4 * (gz Af 3561)))) (n := 5340) ⟨by omega, by omega⟩ (by decide)) dX12_anIce_82 ?_
        refine lv_topi (fun x_57 ex_57 => ?_)
        obtain rfl : x_57 = iZ (gz (F_25 0) (3606 + (4 * (gz Af 3561)))) := ex_57.trans (gz_eq ⟨by omega, by omega⟩)
        have h_58 := gz_rg (F_25 0) (3606 + (4 * (gz Af 3561)))
        refine lv_icmp_ne (tgt := 92) hx hb dX12_anIce_83 (by decide) (fun c_59 => ?_) (fun c_59 => ?_)
        ·
          have c_59 := mt (zeq (x := iZ (I_50 0)) (y := iZ (gz (F_25 0) (3606 + (4 * (gz Af 3561))))) rfl rfl ⟨by omega, by omega⟩ ⟨by omega, by omega⟩).mpr c_59
          have hno := xTr_no (T := tX Xf Msz) (N := N) (n := gz Af 3560) (a := yt_32) (p := cut_32) (fun h9 => absurd h9.2 (by omega)) (by omega)
          refine lv_aload_n hx hb dX12_anIce_92 rfl (lv_at hl 2 rfl) ?_
          refine lv_bipush (v := iZ 24) hx hb dX12_anIce_93 (by decide) ?_
          refine lv_iload_n hx hb dX12_anIce_95 rfl (lv_at hl 0 rfl) ?_
          refine lv_iload_n hx hb dX12_anIce_96 rfl (lv_at hl 1 rfl) ?_
          refine lv_iconst (v := iZ 1) hx hb dX12_anIce_97 (by decide) ?_
          refine lv_iadd hx hb dX12_anIce_98 ?_
          refine lv_topi (fun x_60 ex_60 => ?_)
          obtain rfl : x_60 = iZ ((3606 + (4 * (gz Af 3561))) + 1) := ex_60.trans (iZ_add (3606 + (4 * (gz Af 3561))) 1)
          refine CSV (As := [.int (iZ 24), .int (iZ (gz Af 3560)), .int (iZ ((3606 + (4 * (gz Af 3561))) + 1))]) (rest := []) (wc := [(hm, .inr (12, [.ref Ma, .ref Mn, .int (iZ Mst), .long Mtp, .long Mbt, .ref Ms, .ref My, .ref Mt, .ref Mp, .ref Mx, .int (iZ Mtd), .int (iZ Msz), .int (iZ (I_23 1)), .int (iZ (I_23 2)), .int (iZ (I_23 3)), .int (iZ (I_23 4)), .int (iZ Mfk), .int (iZ (I_23 6)), .int (iZ (I_23 5)), .int (iZ Mse), .int (iZ Mlt), .ref Mo, .int (iZ Mdp), .int (iZ Mct), .ref Mk, .ref Ml, .ref Mb, .ref Mh, .ref Mc, .int (iZ Mdr), .int (iZ Mrs), .ref Mz, .ref Mr, .ref Mq, .int (iZ Mit), .int (iZ Mmk)])), (Mx, .inl (k 0, 900, .inl Xf)), (Ma, .inl (k 1, 5340, .inl (F_25 0))), (Mn, .inl (k 2, 36, .inr (.inl Nf)))]) (wr := []) hx hb hml hown hts hKK hP hD hS hA hSY hRR (y_oldOne l D k sa sv hm Ma Mn Ms My Mt Mp Mx Mo Mk Ml Mb Mh Mc Mz Mr Mq Mst Mtd Msz (I_23 1) (I_23 2) (I_23 3) (I_23 4) Mfk (I_23 6) (I_23 5) Mse Mlt Mdp Mct Mdr Mrs Mit Mmk Mtp Mbt Xf (F_25 0) Nf 24 (gz Af 3560) ((3606 + (4 * (gz Af 3561))) + 1) cut_32 N (by first | with_reducible assumption | exact ⟨⟨by omega, by omega⟩, ⟨by omega, by omega⟩, ⟨by omega, by omega⟩, by omega, by omega, by omega⟩) (by omega) xt_32 ⟨by omega, by omega⟩ ⟨by omega, by omega⟩ ⟨by omega, by omega⟩ hns) ci_X12_oldOne qm_X12_195 ⟨Nat.le_of_ble_eq_true rfl, Nat.le_of_ble_eq_true rfl⟩ ⟨Nat.le_of_ble_eq_true rfl, Nat.le_of_ble_eq_true rfl⟩ [1, 2, 0, 3] [] rfl rfl rfl rfl rfl (by decide) 0 rfl rfl rfl hl.1 rfl (Nat.le_of_ble_eq_true rfl) dX12_anIce_99 (fun u_61 H locs hφ hP hD hS => ?_)
          obtain ⟨I_62, L_63, F_64, G_65⟩ := u_61
          obtain ⟨p_67, p_68, p_69, p_70⟩ : ((0 ≤ ((I_62 2) : Int) ∧ ((I_62 2) : Int) ≤ (I_62 3)) ∧ (((I_62 3) : Int) ≤ Msz ∧ (Msz : Int) ≤ 900) ∧ (0 ≤ ((I_62 1) : Int) ∧ ((I_62 1) : Int) ≤ 4) ∧ (((I_62 1) : Int) = 0 ∨ ((I_62 2) : Int) < (I_62 3)) ∧ (-1 ≤ ((I_62 4) : Int) ∧ ((I_62 4) : Int) ≤ 100000)) ∧ (0 ≤ ((I_62 5) : Int) ∧ ((I_62 5) : Int) ≤ 9) ∧ ((((I_62 0) : Int) = 1 ∧ ∃ (q9 v9 : Int), xTr (tX Xf Msz) N (gz Af 3560) (-1) cut_32 = .inr (q9, v9) ∧ cut_32 < q9 ∧ RFX (tX Xf Msz) q9 (I_62 2) (I_62 3) (I_62 1) (I_62 4) ∧ (0 ≤ v9 ∧ v9 < (gz Af 3560)) ∧ (F_64 0) = upd (F_25 0) (iZ ((3606 + (4 * (gz Af 3561))) + 1)).toNatClampNeg (iZ v9) ∧ ((I_62 5) : Int) = 0 ∧ (I_62 6) = (I_23 6)) ∨ (((I_62 0) : Int) = 0 ∧ xTr (tX Xf Msz) N (gz Af 3560) (-1) cut_32 = .inl ((I_62 5), (I_62 6)) ∧ 1 ≤ ((I_62 5) : Int))) ∧ (((I_62 0) : Int) = 0 → KP (F_64 0) (F_25 0)) := hφ
          refine W.eq (g2 := F0 m 102 ls [.int (iZ (I_62 0))]) rfl ?_
          rcases p_69 with ⟨qt_71, cut_71, yt_71, st_71, lt_71, xt_71, rt_71, ht_71, ut_71, vt_71⟩ | ⟨qt_71, st_71, bt_71⟩
          ·
            rw [qt_71]
            obtain ⟨⟨ar_72, br_72⟩, cr_72, dr_72, er_72, gr_72, hr_72⟩ := id xt_71
            have kr_72 := tk_1 dr_72 (xKd_rg _ _)
            have wr_72 := xKw_rg (tX Xf Msz) cut_71
            replace kr_72 : Unit → _ := fun _ => kr_72
            replace er_72 : Unit → _ := fun _ => er_72
            replace gr_72 : Unit → _ := fun _ => gr_72
            replace hr_72 : Unit → _ := fun _ => hr_72
            clear p_70
            have kp_73 := KP.up ht_71 ⟨by omega, by omega⟩ ⟨by omega, by omega⟩
            have ns_74 := NSZ.far ns_35 ht_71 (Or.inl ⟨by omega, by omega⟩) ⟨by omega, by omega⟩
            have ms_75 := MSX.ic ms_36 ht_71 (by omega) (by omega) (by omega)
            have q0gv_76 : gz (F_64 0) 3560 = gz (F_25 0) 3560 := by have c9 := gz_upc (j := 3560) ht_71 ⟨by omega, by omega⟩ ⟨by omega, by omega⟩ (by omega); omega
            have q1gv_76 : gz (F_64 0) 3561 = gz (F_25 0) 3561 := by have c9 := gz_upc (j := 3561) ht_71 ⟨by omega, by omega⟩ ⟨by omega, by omega⟩ (by omega); omega
            have v0gv_76 : gz (F_64 0) (3606 + (4 * (gz Af 3561))) = gz (F_25 0) (3606 + (4 * (gz Af 3561))) := by have c9 := gz_upc (j := (3606 + (4 * (gz Af 3561)))) ht_71 ⟨by omega, by omega⟩ ⟨by omega, by omega⟩ (by omega); omega
            have v1gv_76 : gz (F_64 0) ((3606 + (4 * (gz Af 3561))) + 1) = yt_71 := by have c9 := gz_upc (j := ((3606 + (4 * (gz Af 3561))) + 1)) ht_71 ⟨by omega, by omega⟩ ⟨by omega, by omega⟩ (by omega); omega
            obtain ⟨z0gv_76, z1gv_76, z3gv_76, z4gv_76, z5gv_76, zSgv_76⟩ := id ns_74
            refine lv_if_ne (tgt := 107) hx hb dX12_anIce_102 (by decide) (fun _ => ?_) (fun c => absurd c (by decide))
            refine lv_aload_n hx hb dX12_anIce_107 rfl (lv_at hl 2 rfl) ?_
            refine va_ldcS hx hb hown hRR dX12_anIce_108 ?_
            refine lv_bipush (v := iZ 10) hx hb dX12_anIce_110 (by decide) ?_
            refine CSV (As := [.ref sa, .int (iZ 10)]) (rest := []) (wc := [(hm, .inr (12, [.ref Ma, .ref Mn, .int (iZ Mst), .long Mtp, .long Mbt, .ref Ms, .ref My, .ref Mt, .ref Mp, .ref Mx, .int (iZ Mtd), .int (iZ Msz), .int (iZ (I_62 1)), .int (iZ (I_62 2)), .int (iZ (I_62 3)), .int (iZ (I_62 4)), .int (iZ Mfk), .int (iZ (I_62 6)), .int (iZ (I_62 5)), .int (iZ Mse), .int (iZ Mlt), .ref Mo, .int (iZ Mdp), .int (iZ Mct), .ref Mk, .ref Ml, .ref Mb, .ref Mh, .ref Mc, .int (iZ Mdr), .int (iZ Mrs), .ref Mz, .ref Mr, .ref Mq, .int (iZ Mit), .int (iZ Mmk)])), (Mx, .inl (k 0, 900, .inl Xf))]) (wr := [(Ma, .inl (k 1, 5340, .inl (F_64 0))), (Mn, .inl (k 2, 36, .inr (.inl Nf)))]) hx hb hml hown hts hKK hP hD hS hA hSY hRR (y_wantWord l D k sa sv hm Ma Mn Ms My Mt Mp Mx Mo Mk Ml Mb Mh Mc Mz Mr Mq Mst Mtd Msz (I_62 1) (I_62 2) (I_62 3) (I_62 4) Mfk (I_62 6) (I_62 5) Mse Mlt Mdp Mct Mdr Mrs Mit Mmk Mtp Mbt Xf 10 cut_71 9 (by first | with_reducible assumption | exact ⟨⟨by omega, by omega⟩, ⟨by omega, by omega⟩, ⟨by omega, by omega⟩, by omega, by omega, by omega⟩) (by omega) xt_71 ⟨by omega, by omega⟩ ⟨by decide, by decide⟩) ci_X12_wantWord qm_X12_184 ⟨Nat.le_of_ble_eq_true rfl, Nat.le_of_ble_eq_true rfl⟩ ⟨Nat.le_of_ble_eq_true rfl, Nat.le_of_ble_eq_true rfl⟩ [0, 1] [2, 3] rfl rfl rfl rfl rfl (by decide) 0 rfl rfl rfl hl.1 rfl (Nat.le_of_ble_eq_true rfl) dX12_anIce_112 (fun u_78 H locs hφ hP hD hS => ?_)
            obtain ⟨I_79, L_80, F_81, G_82⟩ := u_78
            obtain ⟨p_84, p_85, p_86⟩ : ((0 ≤ ((I_79 2) : Int) ∧ ((I_79 2) : Int) ≤ (I_79 3)) ∧ (((I_79 3) : Int) ≤ Msz ∧ (Msz : Int) ≤ 900) ∧ (0 ≤ ((I_79 1) : Int) ∧ ((I_79 1) : Int) ≤ 4) ∧ (((I_79 1) : Int) = 0 ∨ ((I_79 2) : Int) < (I_79 3)) ∧ (-1 ≤ ((I_79 4) : Int) ∧ ((I_79 4) : Int) ≤ 100000)) ∧ (0 ≤ ((I_79 5) : Int) ∧ ((I_79 5) : Int) ≤ 9) ∧ ((((I_79 0) : Int) = 1 ∧ ∃ q9 : Int, xTw (tX Xf Msz) 9 cut_71 = .inr q9 ∧ cut_71 < q9 ∧ RFX (tX Xf Msz) q9 (I_79 2) (I_79 3) (I_79 1) (I_79 4) ∧ ((I_79 5) : Int) = 0 ∧ (I_79 6) = (I_62 6)) ∨ (((I_79 0) : Int) = 0 ∧ xTw (tX Xf Msz) 9 cut_71 = .inl ((I_79 5), (I_79 6)) ∧ 1 ≤ ((I_79 5) : Int))) := hφ
            refine W.eq (g2 := F0 m 115 ls [.int (iZ (I_79 0))]) rfl ?_
            rcases p_86 with ⟨qt_87, cut_87, st_87, lt_87, xt_87, ut_87, vt_87⟩ | ⟨qt_87, st_87, bt_87⟩
            ·
              rw [qt_87]
              obtain ⟨⟨ar_88, br_88⟩, cr_88, dr_88, er_88, gr_88, hr_88⟩ := id xt_87
              have kr_88 := tk_1 dr_88 (xKd_rg _ _)
              have wr_88 := xKw_rg (tX Xf Msz) cut_87
              replace kr_88 : Unit → _ := fun _ => kr_88
              replace er_88 : Unit → _ := fun _ => er_88
              replace gr_88 : Unit → _ := fun _ => gr_88
              replace hr_88 : Unit → _ := fun _ => hr_88
              refine lv_if_eq (tgt := 164) hx hb dX12_anIce_115 (by decide) (fun c => absurd c (by decide)) (fun _ => ?_)
              refine lv_aload_n hx hb dX12_anIce_118 rfl (lv_at hl 2 rfl) ?_
              refine lv_iload_n hx hb dX12_anIce_119 rfl (lv_at hl 1 rfl) ?_
              refine lv_iconst (v := iZ 2) hx hb dX12_anIce_120 (by decide) ?_
              refine lv_iadd hx hb dX12_anIce_121 ?_
              refine lv_topi (fun x_90 ex_90 => ?_)
              obtain rfl : x_90 = iZ ((3606 + (4 * (gz Af 3561))) + 2) := ex_90.trans (iZ_add (3606 + (4 * (gz Af 3561))) 2)
              refine lv_iconst (v := iZ 0) hx hb dX12_anIce_122 (by decide) ?_
              refine lv_sipush (v := iZ 400) hx hb dX12_anIce_123 (by decide) ?_
              refine CWV (As := [.int (iZ ((3606 + (4 * (gz Af 3561))) + 2)), .int (iZ 0), .int (iZ 400)]) (rest := []) (wc := [(hm, .inr (12, [.ref Ma, .ref Mn, .int (iZ Mst), .long Mtp, .long Mbt, .ref Ms, .ref My, .ref Mt, .ref Mp, .ref Mx, .int (iZ Mtd), .int (iZ Msz), .int (iZ (I_79 1)), .int (iZ (I_79 2)), .int (iZ (I_79 3)), .int (iZ (I_79 4)), .int (iZ Mfk), .int (iZ (I_79 6)), .int (iZ (I_79 5)), .int (iZ Mse), .int (iZ Mlt), .ref Mo, .int (iZ Mdp), .int (iZ Mct), .ref Mk, .ref Ml, .ref Mb, .ref Mh, .ref Mc, .int (iZ Mdr), .int (iZ Mrs), .ref Mz, .ref Mr, .ref Mq, .int (iZ Mit), .int (iZ Mmk)])), (Mx, .inl (k 0, 900, .inl Xf)), (Ma, .inl (k 1, 5340, .inl (F_64 0)))]) (wr := [(Mn, .inl (k 2, 36, .inr (.inl Nf)))]) hx hb hml hown hts hKK hP hD hS hA (y_number l D k hm Ma Mn Ms My Mt Mp Mx Mo Mk Ml Mb Mh Mc Mz Mr Mq Mst Mtd Msz (I_79 1) (I_79 2) (I_79 3) (I_79 4) Mfk (I_79 6) (I_79 5) Mse Mlt Mdp Mct Mdr Mrs Mit Mmk Mtp Mbt Xf (F_64 0) ((3606 + (4 * (gz Af 3561))) + 2) 0 400 cut_87 (by first | with_reducible assumption | exact ⟨⟨by omega, by omega⟩, ⟨by omega, by omega⟩, ⟨by omega, by omega⟩, by omega, by omega, by omega⟩) (by omega) xt_87 ⟨by omega, by omega⟩ ⟨by omega, by omega⟩ ⟨by omega, by omega⟩) ci_X12_number qm_X12_188 ⟨Nat.le_of_ble_eq_true rfl, Nat.le_of_ble_eq_true rfl⟩ ⟨Nat.le_of_ble_eq_true rfl, Nat.le_of_ble_eq_true rfl⟩ [2, 3, 0] [1] rfl rfl rfl rfl rfl (by decide) 0 rfl rfl rfl hl.1 rfl (Nat.le_of_ble_eq_true rfl) dX12_anIce_126 (fun u_91 H locs hφ hP hD hS => ?_)
              obtain ⟨I_92, L_93, F_94, G_95⟩ := u_91
              obtain ⟨p_97, p_98, p_99, p_100⟩ : ((0 ≤ ((I_92 2) : Int) ∧ ((I_92 2) : Int) ≤ (I_92 3)) ∧ (((I_92 3) : Int) ≤ Msz ∧ (Msz : Int) ≤ 900) ∧ (0 ≤ ((I_92 1) : Int) ∧ ((I_92 1) : Int) ≤ 4) ∧ (((I_92 1) : Int) = 0 ∨ ((I_92 2) : Int) < (I_92 3)) ∧ (-1 ≤ ((I_92 4) : Int) ∧ ((I_92 4) : Int) ≤ 100000)) ∧ (0 ≤ ((I_92 5) : Int) ∧ ((I_92 5) : Int) ≤ 9) ∧ ((((I_92 0) : Int) = 1 ∧ ∃ (q9 v9 : Int), xTn (tX Xf Msz) 0 400 cut_87 = .inr (q9, v9) ∧ cut_87 < q9 ∧ RFX (tX Xf Msz) q9 (I_92 2) (I_92 3) (I_92 1) (I_92 4) ∧ (0 ≤ v9 ∧ v9 ≤ 400) ∧ (F_94 0) = upd (F_64 0) (iZ ((3606 + (4 * (gz Af 3561))) + 2)).toNatClampNeg (iZ v9) ∧ ((I_92 5) : Int) = 0 ∧ (I_92 6) = (I_79 6)) ∨ (((I_92 0) : Int) = 0 ∧ xTn (tX Xf Msz) 0 400 cut_87 = .inl ((I_92 5), (I_92 6)) ∧ 1 ≤ ((I_92 5) : Int))) ∧ (((I_92 0) : Int) = 0 → (F_94 0) = (F_64 0)) := hφ
              refine W.eq (g2 := F0 m 129 ls [.int (iZ (I_92 0))]) rfl ?_
              rcases p_99 with ⟨qt_101, cut_101, yt_101, st_101, lt_101, xt_101, rt_101, ht_101, ut_101, vt_101⟩ | ⟨qt_101, st_101, bt_101⟩
              ·
                rw [qt_101]
                obtain ⟨⟨ar_102, br_102⟩, cr_102, dr_102, er_102, gr_102, hr_102⟩ := id xt_101
                have kr_102 := tk_1 dr_102 (xKd_rg _ _)
                have wr_102 := xKw_rg (tX Xf Msz) cut_101
                replace kr_102 : Unit → _ := fun _ => kr_102
                replace er_102 : Unit → _ := fun _ => er_102
                replace gr_102 : Unit → _ := fun _ => gr_102
                replace hr_102 : Unit → _ := fun _ => hr_102
                clear p_100
                have kp_103 := KP.up ht_101 ⟨by omega, by omega⟩ ⟨by omega, by omega⟩
                have ns_104 := NSZ.far ns_74 ht_101 (Or.inl ⟨by omega, by omega⟩) ⟨by omega, by omega⟩
                have ms_105 := MSX.ic ms_75 ht_101 (by omega) (by omega) (by omega)
                have q0gv_106 : gz (F_94 0) 3560 = gz (F_64 0) 3560 := by have c9 := gz_upc (j := 3560) ht_101 ⟨by omega, by omega⟩ ⟨by omega, by omega⟩ (by omega); omega
                have q1gv_106 : gz (F_94 0) 3561 = gz (F_64 0) 3561 := by have c9 := gz_upc (j := 3561) ht_101 ⟨by omega, by omega⟩ ⟨by omega, by omega⟩ (by omega); omega
                have v0gv_106 : gz (F_94 0) (3606 + (4 * (gz Af 3561))) = gz (F_64 0) (3606 + (4 * (gz Af 3561))) := by have c9 := gz_upc (j := (3606 + (4 * (gz Af 3561)))) ht_101 ⟨by omega, by omega⟩ ⟨by omega, by omega⟩ (by omega); omega
                have v1gv_106 : gz (F_94 0) ((3606 + (4 * (gz Af 3561))) + 1) = gz (F_64 0) ((3606 + (4 * (gz Af 3561))) + 1) := by have c9 := gz_upc (j := ((3606 + (4 * (gz Af 3561))) + 1)) ht_101 ⟨by omega, by omega⟩ ⟨by omega, by omega⟩ (by omega); omega
                have v2gv_106 : gz (F_94 0) ((3606 + (4 * (gz Af 3561))) + 2) = yt_101 := by have c9 := gz_upc (j := ((3606 + (4 * (gz Af 3561))) + 2)) ht_101 ⟨by omega, by omega⟩ ⟨by omega, by omega⟩ (by omega); omega
                obtain ⟨z0gv_106, z1gv_106, z3gv_106, z4gv_106, z5gv_106, zSgv_106⟩ := id ns_104
                refine lv_if_eq (tgt := 164) hx hb dX12_anIce_129 (by decide) (fun c => absurd c (by decide)) (fun _ => ?_)
                refine lv_aload_n hx hb dX12_anIce_132 rfl (lv_at hl 2 rfl) ?_
                refine va_ldcS hx hb hown hRR dX12_anIce_133 ?_
                refine lv_bipush (v := iZ 11) hx hb dX12_anIce_135 (by decide) ?_
                refine CSV (As := [.ref sa, .int (iZ 11)]) (rest := []) (wc := [(hm, .inr (12, [.ref Ma, .ref Mn, .int (iZ Mst), .long Mtp, .long Mbt, .ref Ms, .ref My, .ref Mt, .ref Mp, .ref Mx, .int (iZ Mtd), .int (iZ Msz), .int (iZ (I_92 1)), .int (iZ (I_92 2)), .int (iZ (I_92 3)), .int (iZ (I_92 4)), .int (iZ Mfk), .int (iZ (I_92 6)), .int (iZ (I_92 5)), .int (iZ Mse), .int (iZ Mlt), .ref Mo, .int (iZ Mdp), .int (iZ Mct), .ref Mk, .ref Ml, .ref Mb, .ref Mh, .ref Mc, .int (iZ Mdr), .int (iZ Mrs), .ref Mz, .ref Mr, .ref Mq, .int (iZ Mit), .int (iZ Mmk)])), (Mx, .inl (k 0, 900, .inl Xf))]) (wr := [(Mn, .inl (k 2, 36, .inr (.inl Nf))), (Ma, .inl (k 1, 5340, .inl (F_94 0)))]) hx hb hml hown hts hKK hP hD hS hA hSY hRR (y_wantWord l D k sa sv hm Ma Mn Ms My Mt Mp Mx Mo Mk Ml Mb Mh Mc Mz Mr Mq Mst Mtd Msz (I_92 1) (I_92 2) (I_92 3) (I_92 4) Mfk (I_92 6) (I_92 5) Mse Mlt Mdp Mct Mdr Mrs Mit Mmk Mtp Mbt Xf 11 cut_101 10 (by first | with_reducible assumption | exact ⟨⟨by omega, by omega⟩, ⟨by omega, by omega⟩, ⟨by omega, by omega⟩, by omega, by omega, by omega⟩) (by omega) xt_101 ⟨by omega, by omega⟩ ⟨by decide, by decide⟩) ci_X12_wantWord qm_X12_184 ⟨Nat.le_of_ble_eq_true rfl, Nat.le_of_ble_eq_true rfl⟩ ⟨Nat.le_of_ble_eq_true rfl, Nat.le_of_ble_eq_true rfl⟩ [1, 2] [0, 3] rfl rfl rfl rfl rfl (by decide) 0 rfl rfl rfl hl.1 rfl (Nat.le_of_ble_eq_true rfl) dX12_anIce_137 (fun u_108 H locs hφ hP hD hS => ?_)
                obtain ⟨I_109, L_110, F_111, G_112⟩ := u_108
                obtain ⟨p_114, p_115, p_116⟩ : ((0 ≤ ((I_109 2) : Int) ∧ ((I_109 2) : Int) ≤ (I_109 3)) ∧ (((I_109 3) : Int) ≤ Msz ∧ (Msz : Int) ≤ 900) ∧ (0 ≤ ((I_109 1) : Int) ∧ ((I_109 1) : Int) ≤ 4) ∧ (((I_109 1) : Int) = 0 ∨ ((I_109 2) : Int) < (I_109 3)) ∧ (-1 ≤ ((I_109 4) : Int) ∧ ((I_109 4) : Int) ≤ 100000)) ∧ (0 ≤ ((I_109 5) : Int) ∧ ((I_109 5) : Int) ≤ 9) ∧ ((((I_109 0) : Int) = 1 ∧ ∃ q9 : Int, xTw (tX Xf Msz) 10 cut_101 = .inr q9 ∧ cut_101 < q9 ∧ RFX (tX Xf Msz) q9 (I_109 2) (I_109 3) (I_109 1) (I_109 4) ∧ ((I_109 5) : Int) = 0 ∧ (I_109 6) = (I_92 6)) ∨ (((I_109 0) : Int) = 0 ∧ xTw (tX Xf Msz) 10 cut_101 = .inl ((I_109 5), (I_109 6)) ∧ 1 ≤ ((I_109 5) : Int))) := hφ
                refine W.eq (g2 := F0 m 140 ls [.int (iZ (I_109 0))]) rfl ?_
                rcases p_116 with ⟨qt_117, cut_117, st_117, lt_117, xt_117, ut_117, vt_117⟩ | ⟨qt_117, st_117, bt_117⟩
                ·
                  rw [qt_117]
                  obtain ⟨⟨ar_118, br_118⟩, cr_118, dr_118, er_118, gr_118, hr_118⟩ := id xt_117
                  have kr_118 := tk_1 dr_118 (xKd_rg _ _)
                  have wr_118 := xKw_rg (tX Xf Msz) cut_117
                  replace kr_118 : Unit → _ := fun _ => kr_118
                  replace er_118 : Unit → _ := fun _ => er_118
                  replace gr_118 : Unit → _ := fun _ => gr_118
                  replace hr_118 : Unit → _ := fun _ => hr_118
                  refine lv_if_eq (tgt := 164) hx hb dX12_anIce_140 (by decide) (fun c => absurd c (by decide)) (fun _ => ?_)
                  refine lv_aload_n hx hb dX12_anIce_143 rfl (lv_at hl 2 rfl) ?_
                  refine lv_iload_n hx hb dX12_anIce_144 rfl (lv_at hl 1 rfl) ?_
                  refine lv_iconst (v := iZ 3) hx hb dX12_anIce_145 (by decide) ?_
                  refine lv_iadd hx hb dX12_anIce_146 ?_
                  refine lv_topi (fun x_120 ex_120 => ?_)
                  obtain rfl : x_120 = iZ ((3606 + (4 * (gz Af 3561))) + 3) := ex_120.trans (iZ_add (3606 + (4 * (gz Af 3561))) 3)
                  refine lv_aload_n hx hb dX12_anIce_147 rfl (lv_at hl 2 rfl) ?_
                  refine va_get (D := D) (ci := 12) (v := .ref Ma) (C := RX12) (T := TX12) (N := 36) hx hb hts iX12 hown hK hP 2 rfl rfl 0 (by decide) (hts _ qf_X12_7) (fun _ h => h) rfl dX12_anIce_148 ?_
                  refine lv_iload_n hx hb dX12_anIce_151 rfl (lv_at hl 1 rfl) ?_
                  refine lv_iconst (v := iZ 2) hx hb dX12_anIce_152 (by decide) ?_
                  refine lv_iadd hx hb dX12_anIce_153 ?_
                  refine lv_topi (fun x_121 ex_121 => ?_)
                  obtain rfl : x_121 = iZ ((3606 + (4 * (gz Af 3561))) + 2) := ex_121.trans (iZ_add (3606 + (4 * (gz Af 3561))) 2)
                  refine va_iald hx hb hK hP 1 1 rfl rfl (zin (e := ((3606 + (4 * (gz Af 3561))) + 2)) (n := 5340) ⟨by omega, by omega⟩ (by decide)) dX12_anIce_154 ?_
                  refine lv_topi (fun x_122 ex_122 => ?_)
                  obtain rfl : x_122 = iZ (gz (F_94 0) ((3606 + (4 * (gz Af 3561))) + 2)) := ex_122.trans (gz_eq ⟨by omega, by omega⟩)
                  have h_123 := gz_rg (F_94 0) ((3606 + (4 * (gz Af 3561))) + 2)
                  refine lv_sipush (v := iZ 400) hx hb dX12_anIce_155 (by decide) ?_
                  refine CWV (As := [.int (iZ ((3606 + (4 * (gz Af 3561))) + 3)), .int (iZ (gz (F_94 0) ((3606 + (4 * (gz Af 3561))) + 2))), .int (iZ 400)]) (rest := []) (wc := [(hm, .inr (12, [.ref Ma, .ref Mn, .int (iZ Mst), .long Mtp, .long Mbt, .ref Ms, .ref My, .ref Mt, .ref Mp, .ref Mx, .int (iZ Mtd), .int (iZ Msz), .int (iZ (I_109 1)), .int (iZ (I_109 2)), .int (iZ (I_109 3)), .int (iZ (I_109 4)), .int (iZ Mfk), .int (iZ (I_109 6)), .int (iZ (I_109 5)), .int (iZ Mse), .int (iZ Mlt), .ref Mo, .int (iZ Mdp), .int (iZ Mct), .ref Mk, .ref Ml, .ref Mb, .ref Mh, .ref Mc, .int (iZ Mdr), .int (iZ Mrs), .ref Mz, .ref Mr, .ref Mq, .int (iZ Mit), .int (iZ Mmk)])), (Mx, .inl (k 0, 900, .inl Xf)), (Ma, .inl (k 1, 5340, .inl (F_94 0)))]) (wr := [(Mn, .inl (k 2, 36, .inr (.inl Nf)))]) hx hb hml hown hts hKK hP hD hS hA (y_number l D k hm Ma Mn Ms My Mt Mp Mx Mo Mk Ml Mb Mh Mc Mz Mr Mq Mst Mtd Msz (I_109 1) (I_109 2) (I_109 3) (I_109 4) Mfk (I_109 6) (I_109 5) Mse Mlt Mdp Mct Mdr Mrs Mit Mmk Mtp Mbt Xf (F_94 0) ((3606 + (4 * (gz Af 3561))) + 3) (gz (F_94 0) ((3606 + (4 * (gz Af 3561))) + 2)) 400 cut_117 (by first | with_reducible assumption | exact ⟨⟨by omega, by omega⟩, ⟨by omega, by omega⟩, ⟨by omega, by omega⟩, by omega, by omega, by omega⟩) (by omega) xt_117 ⟨by omega, by omega⟩ ⟨by omega, by omega⟩ ⟨by omega, by omega⟩) ci_X12_number qm_X12_188 ⟨Nat.le_of_ble_eq_true rfl, Nat.le_of_ble_eq_true rfl⟩ ⟨Nat.le_of_ble_eq_true rfl, Nat.le_of_ble_eq_true rfl⟩ [2, 3, 1] [0] rfl rfl rfl rfl rfl (by decide) 0 rfl rfl rfl hl.1 rfl (Nat.le_of_ble_eq_true rfl) dX12_anIce_158 (fun u_124 H locs hφ hP hD hS => ?_)
                  obtain ⟨I_125, L_126, F_127, G_128⟩ := u_124
                  obtain ⟨p_130, p_131, p_132, p_133⟩ : ((0 ≤ ((I_125 2) : Int) ∧ ((I_125 2) : Int) ≤ (I_125 3)) ∧ (((I_125 3) : Int) ≤ Msz ∧ (Msz : Int) ≤ 900) ∧ (0 ≤ ((I_125 1) : Int) ∧ ((I_125 1) : Int) ≤ 4) ∧ (((I_125 1) : Int) = 0 ∨ ((I_125 2) : Int) < (I_125 3)) ∧ (-1 ≤ ((I_125 4) : Int) ∧ ((I_125 4) : Int) ≤ 100000)) ∧ (0 ≤ ((I_125 5) : Int) ∧ ((I_125 5) : Int) ≤ 9) ∧ ((((I_125 0) : Int) = 1 ∧ ∃ (q9 v9 : Int), xTn (tX Xf Msz) (gz (F_94 0) ((3606 + (4 * (gz Af 3561))) + 2)) 400 cut_117 = .inr (q9, v9) ∧ cut_117 < q9 ∧ RFX (tX Xf Msz) q9 (I_125 2) (I_125 3) (I_125 1) (I_125 4) ∧ ((gz (F_94 0) ((3606 + (4 * (gz Af 3561))) + 2)) ≤ v9 ∧ v9 ≤ 400) ∧ (F_127 0) = upd (F_94 0) (iZ ((3606 + (4 * (gz Af 3561))) + 3)).toNatClampNeg (iZ v9) ∧ ((I_125 5) : Int) = 0 ∧ (I_125 6) = (I_109 6)) ∨ (((I_125 0) : Int) = 0 ∧ xTn (tX Xf Msz) (gz (F_94 0) ((3606 + (4 * (gz Af 3561))) + 2)) 400 cut_117 = .inl ((I_125 5), (I_125 6)) ∧ 1 ≤ ((I_125 5) : Int))) ∧ (((I_125 0) : Int) = 0 → (F_127 0) = (F_94 0)) := hφ
                  refine W.eq (g2 := F0 m 161 ls [.int (iZ (I_125 0))]) rfl ?_
                  rcases p_132 with ⟨qt_134, cut_134, yt_134, st_134, lt_134, xt_134, rt_134, ht_134, ut_134, vt_134⟩ | ⟨qt_134, st_134, bt_134⟩
                  ·
                    rw [qt_134]
                    obtain ⟨⟨ar_135, br_135⟩, cr_135, dr_135, er_135, gr_135, hr_135⟩ := id xt_134
                    have kr_135 := tk_1 dr_135 (xKd_rg _ _)
                    have wr_135 := xKw_rg (tX Xf Msz) cut_134
                    replace kr_135 : Unit → _ := fun _ => kr_135
                    replace er_135 : Unit → _ := fun _ => er_135
                    replace gr_135 : Unit → _ := fun _ => gr_135
                    replace hr_135 : Unit → _ := fun _ => hr_135
                    clear p_133
                    have kp_136 := KP.up ht_134 ⟨by omega, by omega⟩ ⟨by omega, by omega⟩
                    have ns_137 := NSZ.far ns_104 ht_134 (Or.inl ⟨by omega, by omega⟩) ⟨by omega, by omega⟩
                    have ms_138 := MSX.ic ms_105 ht_134 (by omega) (by omega) (by omega)
                    have q0gv_139 : gz (F_127 0) 3560 = gz (F_94 0) 3560 := by have c9 := gz_upc (j := 3560) ht_134 ⟨by omega, by omega⟩ ⟨by omega, by omega⟩ (by omega); omega
                    have q1gv_139 : gz (F_127 0) 3561 = gz (F_94 0) 3561 := by have c9 := gz_upc (j := 3561) ht_134 ⟨by omega, by omega⟩ ⟨by omega, by omega⟩ (by omega); omega
                    have v0gv_139 : gz (F_127 0) (3606 + (4 * (gz Af 3561))) = gz (F_94 0) (3606 + (4 * (gz Af 3561))) := by have c9 := gz_upc (j := (3606 + (4 * (gz Af 3561)))) ht_134 ⟨by omega, by omega⟩ ⟨by omega, by omega⟩ (by omega); omega
                    have v1gv_139 : gz (F_127 0) ((3606 + (4 * (gz Af 3561))) + 1) = gz (F_94 0) ((3606 + (4 * (gz Af 3561))) + 1) := by have c9 := gz_upc (j := ((3606 + (4 * (gz Af 3561))) + 1)) ht_134 ⟨by omega, by omega⟩ ⟨by omega, by omega⟩ (by omega); omega
                    have v2gv_139 : gz (F_127 0) ((3606 + (4 * (gz Af 3561))) + 2) = gz (F_94 0) ((3606 + (4 * (gz Af 3561))) + 2) := by have c9 := gz_upc (j := ((3606 + (4 * (gz Af 3561))) + 2)) ht_134 ⟨by omega, by omega⟩ ⟨by omega, by omega⟩ (by omega); omega
                    have v3gv_139 : gz (F_127 0) ((3606 + (4 * (gz Af 3561))) + 3) = yt_134 := by have c9 := gz_upc (j := ((3606 + (4 * (gz Af 3561))) + 3)) ht_134 ⟨by omega, by omega⟩ ⟨by omega, by omega⟩ (by omega); omega
                    obtain ⟨z0gv_139, z1gv_139, z3gv_139, z4gv_139, z5gv_139, zSgv_139⟩ := id ns_137
                    refine lv_if_ne (tgt := 166) hx hb dX12_anIce_161 (by decide) (fun _ => ?_) (fun c => absurd c (by decide))
                    have hni := ms_138.2.1
                    refine lv_aload_n hx hb dX12_anIce_166 rfl (lv_at hl 2 rfl) ?_
                    refine va_get (D := D) (ci := 12) (v := .ref Ma) (C := RX12) (T := TX12) (N := 36) hx hb hts iX12 hown hK hP 1 rfl rfl 0 (by decide) (hts _ qf_X12_7) (fun _ h => h) rfl dX12_anIce_167 ?_
                    refine lv_sipush (v := iZ 3561) hx hb dX12_anIce_170 (by decide) ?_
                    refine lv_dup2_11 hx hb dX12_anIce_173 rfl rfl ?_
                    refine va_iald hx hb hK hP 3 1 rfl rfl (zin (e := 3561) (n := 5340) ⟨by omega, by omega⟩ (by decide)) dX12_anIce_174 ?_
                    refine lv_topi (fun x_141 ex_141 => ?_)
                    obtain rfl : x_141 = iZ (gz (F_127 0) 3561) := ex_141.trans (gz_eq ⟨by omega, by omega⟩)
                    have h_142 := gz_rg (F_127 0) 3561
                    refine lv_iconst (v := iZ 1) hx hb dX12_anIce_175 (by decide) ?_
                    refine lv_iadd hx hb dX12_anIce_176 ?_
                    refine lv_topi (fun x_143 ex_143 => ?_)
                    obtain rfl : x_143 = iZ ((gz (F_127 0) 3561) + 1) := ex_143.trans (iZ_add (gz (F_127 0) 3561) 1)
                    refine va_iast hx hb hK hP hD hS 3 1 rfl rfl (zin (e := 3561) (n := 5340) ⟨by omega, by omega⟩ (by decide)) dX12_anIce_177 (fun H locs hP hD hS => ?_)
                    obtain ⟨f_144, hf_144⟩ : ∃ gg9, gg9 = upd (F_127 0) (iZ 3561).toNatClampNeg (iZ ((gz (F_127 0) 3561) + 1)) := ⟨_, rfl⟩
                    rw [← hf_144] at hP hD
                    have kp_145 := KP.up hf_144 ⟨by omega, by omega⟩ ⟨by omega, by omega⟩
                    have ns_146 := NSZ.ice ns_137 hf_144 ⟨by omega, by omega⟩
                    have hu : f_144 = upd (F_127 0) (iZ 3561).toNatClampNeg (iZ (gz Af 3561 + 1)) := by rw [← hni]; exact hf_144
                    have ms_147 := MSX.ni (a := yt_32) (b := yt_71) (c := yt_101) (d := yt_134) ms_138 hu (by omega) (by omega) (by omega) (by omega) (by omega)
                    refine lv_iconst (v := iZ 1) hx hb dX12_anIce_178 (by decide) ?_
                    obtain ⟨mm0, mm1, mm2, mm3, mmF, mmG⟩ := id ms_147
                    exact EWz hx hb hr hlocks hS (fun i => [1, (I_125 1), (I_125 2), (I_125 3), (I_125 4), (I_125 5), (I_125 6)].getD i 0, fun i => [0].getD i 0, fun i => [f_144].getD i (fun _ => 0), fun i => [Nf].getD i (fun _ => 0)) rfl rfl ⟨(show (0 ≤ ((I_125 2) : Int) ∧ ((I_125 2) : Int) ≤ (I_125 3)) ∧ (((I_125 3) : Int) ≤ Msz ∧ (Msz : Int) ≤ 900) ∧ (0 ≤ ((I_125 1) : Int) ∧ ((I_125 1) : Int) ≤ 4) ∧ (((I_125 1) : Int) = 0 ∨ ((I_125 2) : Int) < (I_125 3)) ∧ (-1 ≤ ((I_125 4) : Int) ∧ ((I_125 4) : Int) ≤ 100000) from (by first | with_reducible assumption | exact ⟨⟨by omega, by omega⟩, ⟨by omega, by omega⟩, ⟨by omega, by omega⟩, by omega, by omega, by omega⟩)), (show 0 ≤ ((I_125 5) : Int) ∧ ((I_125 5) : Int) ≤ 9 from (by omega)), (show KP f_144 Af from (KP.tr kp_145 (KP.tr kp_136 (KP.tr kp_103 (KP.tr kp_73 kp_34))))), (show ((1 : Int) = 1 ∧ ∃ (q9 : Int) (G9 : Int → Int), xIce (tX Xf Msz) N (gz Af 3560) (gz Af 3561) G cu = (xBn (xTs (tX Xf Msz) 59 q9) fun r9 => .inr (r9, G9)) ∧ cu < q9 ∧ RFX (tX Xf Msz) q9 (I_125 2) (I_125 3) (I_125 1) (I_125 4) ∧ MSX f_144 (gz f_144 3560) (gz f_144 3561) (gz f_144 3562) (gz f_144 3678) F G9 ∧ (gz f_144 3560 = gz Af 3560 ∧ gz f_144 3561 = gz Af 3561 + 1 ∧ gz f_144 3562 = gz Af 3562 ∧ gz f_144 3678 = gz Af 3678) ∧ NSZ f_144 ∧ ((I_125 5) : Int) = 0 ∧ (I_125 6) = Mfp) ∨ ((1 : Int) = 0 ∧ xIce (tX Xf Msz) N (gz Af 3560) (gz Af 3561) G cu = .inl ((I_125 5), (I_125 6)) ∧ 1 ≤ ((I_125 5) : Int)) from (Or.inl ⟨rfl, cut_134, xUp (xUp (xUp (xUp G (((gz Af 3561) * 4) + 0) yt_32) (((gz Af 3561) * 4) + 1) yt_71) (((gz Af 3561) * 4) + 2) yt_101) (((gz Af 3561) * 4) + 3) yt_134, xIce_6 (by omega) st_32 (hno.trans st_71) st_87 st_101 st_117 st_134, by omega, xt_134, ⟨rfl, rfl, rfl, rfl, mmF, by rw [mm1]; exact mmG⟩, ⟨by omega, by omega, by omega, by omega⟩, ns_146, by omega, by omega⟩)), (show Nf = Nf from rfl)⟩ (hP.sub [1, 2, 3, 0] rfl) (hD.sub [1, 2, 3, 0] rfl rfl) dX12_anIce_179
                  ·
                    rw [qt_134]
                    replace p_133 := p_133 qt_134
                    have kp_148 : KP (F_127 0) (F_94 0) := by rw [p_133]; exact KP.rf _
                    refine lv_if_ne (tgt := 166) hx hb dX12_anIce_161 (by decide) (fun c => absurd (by decide) c) (fun _ => ?_)
                    refine lv_iconst (v := iZ 0) hx hb dX12_anIce_164 (by decide) ?_
                    exact EWz hx hb hr hlocks hS (fun i => [0, (I_125 1), (I_125 2), (I_125 3), (I_125 4), (I_125 5), (I_125 6)].getD i 0, fun i => [0].getD i 0, fun i => [(F_127 0)].getD i (fun _ => 0), fun i => [Nf].getD i (fun _ => 0)) rfl rfl ⟨(show (0 ≤ ((I_125 2) : Int) ∧ ((I_125 2) : Int) ≤ (I_125 3)) ∧ (((I_125 3) : Int) ≤ Msz ∧ (Msz : Int) ≤ 900) ∧ (0 ≤ ((I_125 1) : Int) ∧ ((I_125 1) : Int) ≤ 4) ∧ (((I_125 1) : Int) = 0 ∨ ((I_125 2) : Int) < (I_125 3)) ∧ (-1 ≤ ((I_125 4) : Int) ∧ ((I_125 4) : Int) ≤ 100000) from (by first | with_reducible assumption | exact ⟨⟨by omega, by omega⟩, ⟨by omega, by omega⟩, ⟨by omega, by omega⟩, by omega, by omega, by omega⟩)), (show 0 ≤ ((I_125 5) : Int) ∧ ((I_125 5) : Int) ≤ 9 from (by omega)), (show KP (F_127 0) Af from (KP.tr kp_148 (KP.tr kp_103 (KP.tr kp_73 kp_34)))), (show ((0 : Int) = 1 ∧ ∃ (q9 : Int) (G9 : Int → Int), xIce (tX Xf Msz) N (gz Af 3560) (gz Af 3561) G cu = (xBn (xTs (tX Xf Msz) 59 q9) fun r9 => .inr (r9, G9)) ∧ cu < q9 ∧ RFX (tX Xf Msz) q9 (I_125 2) (I_125 3) (I_125 1) (I_125 4) ∧ MSX (F_127 0) (gz (F_127 0) 3560) (gz (F_127 0) 3561) (gz (F_127 0) 3562) (gz (F_127 0) 3678) F G9 ∧ (gz (F_127 0) 3560 = gz Af 3560 ∧ gz (F_127 0) 3561 = gz Af 3561 + 1 ∧ gz (F_127 0) 3562 = gz Af 3562 ∧ gz (F_127 0) 3678 = gz Af 3678) ∧ NSZ (F_127 0) ∧ ((I_125 5) : Int) = 0 ∧ (I_125 6) = Mfp) ∨ ((0 : Int) = 0 ∧ xIce (tX Xf Msz) N (gz Af 3560) (gz Af 3561) G cu = .inl ((I_125 5), (I_125 6)) ∧ 1 ≤ ((I_125 5) : Int)) from (Or.inr ⟨rfl, xIce_l5 (by omega) st_32 (hno.trans st_71) st_87 st_101 st_117 st_134, by omega⟩)), (show Nf = Nf from rfl)⟩ (hP.sub [1, 2, 3, 0] rfl) (hD.sub [1, 2, 3, 0] rfl rfl) dX12_anIce_165
                ·
                  rw [qt_117]
                  refine lv_if_eq (tgt := 164) hx hb dX12_anIce_140 (by decide) (fun _ => ?_) (fun c => absurd (by decide) c)
                  refine lv_iconst (v := iZ 0) hx hb dX12_anIce_164 (by decide) ?_
                  exact EWz hx hb hr hlocks hS (fun i => [0, (I_109 1), (I_109 2), (I_109 3), (I_109 4), (I_109 5), (I_109 6)].getD i 0, fun i => [0].getD i 0, fun i => [(F_94 0)].getD i (fun _ => 0), fun i => [Nf].getD i (fun _ => 0)) rfl rfl ⟨(show (0 ≤ ((I_109 2) : Int) ∧ ((I_109 2) : Int) ≤ (I_109 3)) ∧ (((I_109 3) : Int) ≤ Msz ∧ (Msz : Int) ≤ 900) ∧ (0 ≤ ((I_109 1) : Int) ∧ ((I_109 1) : Int) ≤ 4) ∧ (((I_109 1) : Int) = 0 ∨ ((I_109 2) : Int) < (I_109 3)) ∧ (-1 ≤ ((I_109 4) : Int) ∧ ((I_109 4) : Int) ≤ 100000) from (by first | with_reducible assumption | exact ⟨⟨by omega, by omega⟩, ⟨by omega, by omega⟩, ⟨by omega, by omega⟩, by omega, by omega, by omega⟩)), (show 0 ≤ ((I_109 5) : Int) ∧ ((I_109 5) : Int) ≤ 9 from (by omega)), (show KP (F_94 0) Af from (KP.tr kp_103 (KP.tr kp_73 kp_34))), (show ((0 : Int) = 1 ∧ ∃ (q9 : Int) (G9 : Int → Int), xIce (tX Xf Msz) N (gz Af 3560) (gz Af 3561) G cu = (xBn (xTs (tX Xf Msz) 59 q9) fun r9 => .inr (r9, G9)) ∧ cu < q9 ∧ RFX (tX Xf Msz) q9 (I_109 2) (I_109 3) (I_109 1) (I_109 4) ∧ MSX (F_94 0) (gz (F_94 0) 3560) (gz (F_94 0) 3561) (gz (F_94 0) 3562) (gz (F_94 0) 3678) F G9 ∧ (gz (F_94 0) 3560 = gz Af 3560 ∧ gz (F_94 0) 3561 = gz Af 3561 + 1 ∧ gz (F_94 0) 3562 = gz Af 3562 ∧ gz (F_94 0) 3678 = gz Af 3678) ∧ NSZ (F_94 0) ∧ ((I_109 5) : Int) = 0 ∧ (I_109 6) = Mfp) ∨ ((0 : Int) = 0 ∧ xIce (tX Xf Msz) N (gz Af 3560) (gz Af 3561) G cu = .inl ((I_109 5), (I_109 6)) ∧ 1 ≤ ((I_109 5) : Int)) from (Or.inr ⟨rfl, xIce_l4 (by omega) st_32 (hno.trans st_71) st_87 st_101 st_117, by omega⟩)), (show Nf = Nf from rfl)⟩ (hP.sub [2, 3, 1, 0] rfl) (hD.sub [2, 3, 1, 0] rfl rfl) dX12_anIce_165
              ·
                rw [qt_101]
                replace p_100 := p_100 qt_101
                have kp_151 : KP (F_94 0) (F_64 0) := by rw [p_100]; exact KP.rf _
                refine lv_if_eq (tgt := 164) hx hb dX12_anIce_129 (by decide) (fun _ => ?_) (fun c => absurd (by decide) c)
                refine lv_iconst (v := iZ 0) hx hb dX12_anIce_164 (by decide) ?_
                exact EWz hx hb hr hlocks hS (fun i => [0, (I_92 1), (I_92 2), (I_92 3), (I_92 4), (I_92 5), (I_92 6)].getD i 0, fun i => [0].getD i 0, fun i => [(F_94 0)].getD i (fun _ => 0), fun i => [Nf].getD i (fun _ => 0)) rfl rfl ⟨(show (0 ≤ ((I_92 2) : Int) ∧ ((I_92 2) : Int) ≤ (I_92 3)) ∧ (((I_92 3) : Int) ≤ Msz ∧ (Msz : Int) ≤ 900) ∧ (0 ≤ ((I_92 1) : Int) ∧ ((I_92 1) : Int) ≤ 4) ∧ (((I_92 1) : Int) = 0 ∨ ((I_92 2) : Int) < (I_92 3)) ∧ (-1 ≤ ((I_92 4) : Int) ∧ ((I_92 4) : Int) ≤ 100000) from (by first | with_reducible assumption | exact ⟨⟨by omega, by omega⟩, ⟨by omega, by omega⟩, ⟨by omega, by omega⟩, by omega, by omega, by omega⟩)), (show 0 ≤ ((I_92 5) : Int) ∧ ((I_92 5) : Int) ≤ 9 from (by omega)), (show KP (F_94 0) Af from (KP.tr kp_151 (KP.tr kp_73 kp_34))), (show ((0 : Int) = 1 ∧ ∃ (q9 : Int) (G9 : Int → Int), xIce (tX Xf Msz) N (gz Af 3560) (gz Af 3561) G cu = (xBn (xTs (tX Xf Msz) 59 q9) fun r9 => .inr (r9, G9)) ∧ cu < q9 ∧ RFX (tX Xf Msz) q9 (I_92 2) (I_92 3) (I_92 1) (I_92 4) ∧ MSX (F_94 0) (gz (F_94 0) 3560) (gz (F_94 0) 3561) (gz (F_94 0) 3562) (gz (F_94 0) 3678) F G9 ∧ (gz (F_94 0) 3560 = gz Af 3560 ∧ gz (F_94 0) 3561 = gz Af 3561 + 1 ∧ gz (F_94 0) 3562 = gz Af 3562 ∧ gz (F_94 0) 3678 = gz Af 3678) ∧ NSZ (F_94 0) ∧ ((I_92 5) : Int) = 0 ∧ (I_92 6) = Mfp) ∨ ((0 : Int) = 0 ∧ xIce (tX Xf Msz) N (gz Af 3560) (gz Af 3561) G cu = .inl ((I_92 5), (I_92 6)) ∧ 1 ≤ ((I_92 5) : Int)) from (Or.inr ⟨rfl, xIce_l3 (by omega) st_32 (hno.trans st_71) st_87 st_101, by omega⟩)), (show Nf = Nf from rfl)⟩ (hP.sub [1, 2, 3, 0] rfl) (hD.sub [1, 2, 3, 0] rfl rfl) dX12_anIce_165
            ·
              rw [qt_87]
              refine lv_if_eq (tgt := 164) hx hb dX12_anIce_115 (by decide) (fun _ => ?_) (fun c => absurd (by decide) c)
              refine lv_iconst (v := iZ 0) hx hb dX12_anIce_164 (by decide) ?_
              exact EWz hx hb hr hlocks hS (fun i => [0, (I_79 1), (I_79 2), (I_79 3), (I_79 4), (I_79 5), (I_79 6)].getD i 0, fun i => [0].getD i 0, fun i => [(F_64 0)].getD i (fun _ => 0), fun i => [Nf].getD i (fun _ => 0)) rfl rfl ⟨(show (0 ≤ ((I_79 2) : Int) ∧ ((I_79 2) : Int) ≤ (I_79 3)) ∧ (((I_79 3) : Int) ≤ Msz ∧ (Msz : Int) ≤ 900) ∧ (0 ≤ ((I_79 1) : Int) ∧ ((I_79 1) : Int) ≤ 4) ∧ (((I_79 1) : Int) = 0 ∨ ((I_79 2) : Int) < (I_79 3)) ∧ (-1 ≤ ((I_79 4) : Int) ∧ ((I_79 4) : Int) ≤ 100000) from (by first | with_reducible assumption | exact ⟨⟨by omega, by omega⟩, ⟨by omega, by omega⟩, ⟨by omega, by omega⟩, by omega, by omega, by omega⟩)), (show 0 ≤ ((I_79 5) : Int) ∧ ((I_79 5) : Int) ≤ 9 from (by omega)), (show KP (F_64 0) Af from (KP.tr kp_73 kp_34)), (show ((0 : Int) = 1 ∧ ∃ (q9 : Int) (G9 : Int → Int), xIce (tX Xf Msz) N (gz Af 3560) (gz Af 3561) G cu = (xBn (xTs (tX Xf Msz) 59 q9) fun r9 => .inr (r9, G9)) ∧ cu < q9 ∧ RFX (tX Xf Msz) q9 (I_79 2) (I_79 3) (I_79 1) (I_79 4) ∧ MSX (F_64 0) (gz (F_64 0) 3560) (gz (F_64 0) 3561) (gz (F_64 0) 3562) (gz (F_64 0) 3678) F G9 ∧ (gz (F_64 0) 3560 = gz Af 3560 ∧ gz (F_64 0) 3561 = gz Af 3561 + 1 ∧ gz (F_64 0) 3562 = gz Af 3562 ∧ gz (F_64 0) 3678 = gz Af 3678) ∧ NSZ (F_64 0) ∧ ((I_79 5) : Int) = 0 ∧ (I_79 6) = Mfp) ∨ ((0 : Int) = 0 ∧ xIce (tX Xf Msz) N (gz Af 3560) (gz Af 3561) G cu = .inl ((I_79 5), (I_79 6)) ∧ 1 ≤ ((I_79 5) : Int)) from (Or.inr ⟨rfl, xIce_l2 (by omega) st_32 (hno.trans st_71) st_87, by omega⟩)), (show Nf = Nf from rfl)⟩ (hP.sub [2, 3, 0, 1] rfl) (hD.sub [2, 3, 0, 1] rfl rfl) dX12_anIce_165
          ·
            rw [qt_71]
            replace p_70 := p_70 qt_71
            have kp_154 : KP (F_64 0) (F_25 0) := p_70
            refine lv_if_ne (tgt := 107) hx hb dX12_anIce_102 (by decide) (fun c => absurd (by decide) c) (fun _ => ?_)
            refine lv_iconst (v := iZ 0) hx hb dX12_anIce_105 (by decide) ?_
            exact EWz hx hb hr hlocks hS (fun i => [0, (I_62 1), (I_62 2), (I_62 3), (I_62 4), (I_62 5), (I_62 6)].getD i 0, fun i => [0].getD i 0, fun i => [(F_64 0)].getD i (fun _ => 0), fun i => [Nf].getD i (fun _ => 0)) rfl rfl ⟨(show (0 ≤ ((I_62 2) : Int) ∧ ((I_62 2) : Int) ≤ (I_62 3)) ∧ (((I_62 3) : Int) ≤ Msz ∧ (Msz : Int) ≤ 900) ∧ (0 ≤ ((I_62 1) : Int) ∧ ((I_62 1) : Int) ≤ 4) ∧ (((I_62 1) : Int) = 0 ∨ ((I_62 2) : Int) < (I_62 3)) ∧ (-1 ≤ ((I_62 4) : Int) ∧ ((I_62 4) : Int) ≤ 100000) from (by first | with_reducible assumption | exact ⟨⟨by omega, by omega⟩, ⟨by omega, by omega⟩, ⟨by omega, by omega⟩, by omega, by omega, by omega⟩)), (show 0 ≤ ((I_62 5) : Int) ∧ ((I_62 5) : Int) ≤ 9 from (by omega)), (show KP (F_64 0) Af from (KP.tr kp_154 kp_34)), (show ((0 : Int) = 1 ∧ ∃ (q9 : Int) (G9 : Int → Int), xIce (tX Xf Msz) N (gz Af 3560) (gz Af 3561) G cu = (xBn (xTs (tX Xf Msz) 59 q9) fun r9 => .inr (r9, G9)) ∧ cu < q9 ∧ RFX (tX Xf Msz) q9 (I_62 2) (I_62 3) (I_62 1) (I_62 4) ∧ MSX (F_64 0) (gz (F_64 0) 3560) (gz (F_64 0) 3561) (gz (F_64 0) 3562) (gz (F_64 0) 3678) F G9 ∧ (gz (F_64 0) 3560 = gz Af 3560 ∧ gz (F_64 0) 3561 = gz Af 3561 + 1 ∧ gz (F_64 0) 3562 = gz Af 3562 ∧ gz (F_64 0) 3678 = gz Af 3678) ∧ NSZ (F_64 0) ∧ ((I_62 5) : Int) = 0 ∧ (I_62 6) = Mfp) ∨ ((0 : Int) = 0 ∧ xIce (tX Xf Msz) N (gz Af 3560) (gz Af 3561) G cu = .inl ((I_62 5), (I_62 6)) ∧ 1 ≤ ((I_62 5) : Int)) from (Or.inr ⟨rfl, xIce_l1 (by omega) st_32 (hno.trans st_71), by omega⟩)), (show Nf = Nf from rfl)⟩ (hP.sub [0, 1, 2, 3] rfl) (hD.sub [0, 1, 2, 3] rfl rfl) dX12_anIce_106
        ·
          have c_59 := (zeq (x := iZ (I_50 0)) (y := iZ (gz (F_25 0) (3606 + (4 * (gz Af 3561))))) rfl rfl ⟨by omega, by omega⟩ ⟨by omega, by omega⟩).mp c_59
          refine lv_aload_n hx hb dX12_anIce_86 rfl (lv_at hl 2 rfl) ?_
          refine lv_iconst (v := iZ 5) hx hb dX12_anIce_87 (by decide) ?_
          refine CWV (As := [.int (iZ 5)]) (rest := []) (wc := [(hm, .inr (12, [.ref Ma, .ref Mn, .int (iZ Mst), .long Mtp, .long Mbt, .ref Ms, .ref My, .ref Mt, .ref Mp, .ref Mx, .int (iZ Mtd), .int (iZ Msz), .int (iZ (I_23 1)), .int (iZ (I_23 2)), .int (iZ (I_23 3)), .int (iZ (I_23 4)), .int (iZ Mfk), .int (iZ (I_23 6)), .int (iZ (I_23 5)), .int (iZ Mse), .int (iZ Mlt), .ref Mo, .int (iZ Mdp), .int (iZ Mct), .ref Mk, .ref Ml, .ref Mb, .ref Mh, .ref Mc, .int (iZ Mdr), .int (iZ Mrs), .ref Mz, .ref Mr, .ref Mq, .int (iZ Mit), .int (iZ Mmk)])), (Mx, .inl (k 0, 900, .inl Xf))]) (wr := [(Ma, .inl (k 1, 5340, .inl (F_25 0))), (Mn, .inl (k 2, 36, .inr (.inl Nf)))]) hx hb hml hown hts hKK hP hD hS hA (y_fails l D k hm Ma Mn Ms My Mt Mp Mx Mo Mk Ml Mb Mh Mc Mz Mr Mq Mst Mtd Msz (I_23 1) (I_23 2) (I_23 3) (I_23 4) Mfk (I_23 6) (I_23 5) Mse Mlt Mdp Mct Mdr Mrs Mit Mmk Mtp Mbt Xf 5 cut_32 ⟨by omega, by omega⟩ (by omega) xt_32) ci_X12_fails qm_X12_164 ⟨Nat.le_of_ble_eq_true rfl, Nat.le_of_ble_eq_true rfl⟩ ⟨Nat.le_of_ble_eq_true rfl, Nat.le_of_ble_eq_true rfl⟩ [1, 2] [0, 3] rfl rfl rfl rfl rfl (by decide) 0 rfl rfl rfl hl.1 rfl (Nat.le_of_ble_eq_true rfl) dX12_anIce_88 (fun u_156 H locs hφ hP hD hS => ?_)
          obtain ⟨I_157, L_158, F_159, G_160⟩ := u_156
          obtain ⟨p_162, p_163⟩ : ((I_157 1) = xFl (tX Xf Msz) cut_32 5 ∧ (I_157 2) = xPl (tX Xf Msz) cut_32) ∧ (1 ≤ ((I_157 1) : Int) ∧ ((I_157 1) : Int) ≤ 9) := hφ
          refine W.eq (g2 := F0 m 91 ls [.int (iZ 0)]) rfl ?_
          exact EWz hx hb hr hlocks hS (fun i => [0, (I_23 1), (I_23 2), (I_23 3), (I_23 4), (I_157 1), (I_157 2)].getD i 0, fun i => [0].getD i 0, fun i => [(F_25 0)].getD i (fun _ => 0), fun i => [Nf].getD i (fun _ => 0)) rfl rfl ⟨(show (0 ≤ ((I_23 2) : Int) ∧ ((I_23 2) : Int) ≤ (I_23 3)) ∧ (((I_23 3) : Int) ≤ Msz ∧ (Msz : Int) ≤ 900) ∧ (0 ≤ ((I_23 1) : Int) ∧ ((I_23 1) : Int) ≤ 4) ∧ (((I_23 1) : Int) = 0 ∨ ((I_23 2) : Int) < (I_23 3)) ∧ (-1 ≤ ((I_23 4) : Int) ∧ ((I_23 4) : Int) ≤ 100000) from (by first | with_reducible assumption | exact ⟨⟨by omega, by omega⟩, ⟨by omega, by omega⟩, ⟨by omega, by omega⟩, by omega, by omega, by omega⟩)), (show 0 ≤ ((I_157 1) : Int) ∧ ((I_157 1) : Int) ≤ 9 from (by omega)), (show KP (F_25 0) Af from kp_34), (show ((0 : Int) = 1 ∧ ∃ (q9 : Int) (G9 : Int → Int), xIce (tX Xf Msz) N (gz Af 3560) (gz Af 3561) G cu = (xBn (xTs (tX Xf Msz) 59 q9) fun r9 => .inr (r9, G9)) ∧ cu < q9 ∧ RFX (tX Xf Msz) q9 (I_23 2) (I_23 3) (I_23 1) (I_23 4) ∧ MSX (F_25 0) (gz (F_25 0) 3560) (gz (F_25 0) 3561) (gz (F_25 0) 3562) (gz (F_25 0) 3678) F G9 ∧ (gz (F_25 0) 3560 = gz Af 3560 ∧ gz (F_25 0) 3561 = gz Af 3561 + 1 ∧ gz (F_25 0) 3562 = gz Af 3562 ∧ gz (F_25 0) 3678 = gz Af 3678) ∧ NSZ (F_25 0) ∧ ((I_157 1) : Int) = 0 ∧ (I_157 2) = Mfp) ∨ ((0 : Int) = 0 ∧ xIce (tX Xf Msz) N (gz Af 3560) (gz Af 3561) G cu = .inl ((I_157 1), (I_157 2)) ∧ 1 ≤ ((I_157 1) : Int)) from (Or.inr ⟨rfl, xIce_l1 (by omega) st_32 ((xTr_tw it_46 (show xFn N (gz Af 3560) (xNm (tX Xf Msz) cut_32) = yt_32 from (by omega)) (by omega)).trans (by unfold xEr; rw [p_162.1, p_162.2])), by omega⟩)), (show Nf = Nf from rfl)⟩ (hP.sub [2, 3, 0, 1] rfl) (hD.sub [2, 3, 0, 1] rfl rfl) dX12_anIce_91
      ·
        rw [qt_46]
        refine lv_if_eq (tgt := 92) hx hb dX12_anIce_67 (by decide) (fun _ => ?_) (fun c => absurd (by decide) c)
        have hno := xTr_no (T := tX Xf Msz) (N := N) (n := gz Af 3560) (a := yt_32) (p := cut_32) (fun h9 => it_46 h9.1) (by omega)
        refine lv_aload_n hx hb dX12_anIce_92 rfl (lv_at hl 2 rfl) ?_
        refine lv_bipush (v := iZ 24) hx hb dX12_anIce_93 (by decide) ?_
        refine lv_iload_n hx hb dX12_anIce_95 rfl (lv_at hl 0 rfl) ?_
        refine lv_iload_n hx hb dX12_anIce_96 rfl (lv_at hl 1 rfl) ?_
        refine lv_iconst (v := iZ 1) hx hb dX12_anIce_97 (by decide) ?_
        refine lv_iadd hx hb dX12_anIce_98 ?_
        refine lv_topi (fun x_165 ex_165 => ?_)
        obtain rfl : x_165 = iZ ((3606 + (4 * (gz Af 3561))) + 1) := ex_165.trans (iZ_add (3606 + (4 * (gz Af 3561))) 1)
        refine CSV (As := [.int (iZ 24), .int (iZ (gz Af 3560)), .int (iZ ((3606 + (4 * (gz Af 3561))) + 1))]) (rest := []) (wc := [(hm, .inr (12, [.ref Ma, .ref Mn, .int (iZ Mst), .long Mtp, .long Mbt, .ref Ms, .ref My, .ref Mt, .ref Mp, .ref Mx, .int (iZ Mtd), .int (iZ Msz), .int (iZ (I_23 1)), .int (iZ (I_23 2)), .int (iZ (I_23 3)), .int (iZ (I_23 4)), .int (iZ Mfk), .int (iZ (I_23 6)), .int (iZ (I_23 5)), .int (iZ Mse), .int (iZ Mlt), .ref Mo, .int (iZ Mdp), .int (iZ Mct), .ref Mk, .ref Ml, .ref Mb, .ref Mh, .ref Mc, .int (iZ Mdr), .int (iZ Mrs), .ref Mz, .ref Mr, .ref Mq, .int (iZ Mit), .int (iZ Mmk)])), (Mx, .inl (k 0, 900, .inl Xf)), (Ma, .inl (k 1, 5340, .inl (F_25 0))), (Mn, .inl (k 2, 36, .inr (.inl Nf)))]) (wr := []) hx hb hml hown hts hKK hP hD hS hA hSY hRR (y_oldOne l D k sa sv hm Ma Mn Ms My Mt Mp Mx Mo Mk Ml Mb Mh Mc Mz Mr Mq Mst Mtd Msz (I_23 1) (I_23 2) (I_23 3) (I_23 4) Mfk (I_23 6) (I_23 5) Mse Mlt Mdp Mct Mdr Mrs Mit Mmk Mtp Mbt Xf (F_25 0) Nf 24 (gz Af 3560) ((3606 + (4 * (gz Af 3561))) + 1) cut_32 N (by first | with_reducible assumption | exact ⟨⟨by omega, by omega⟩, ⟨by omega, by omega⟩, ⟨by omega, by omega⟩, by omega, by omega, by omega⟩) (by omega) xt_32 ⟨by omega, by omega⟩ ⟨by omega, by omega⟩ ⟨by omega, by omega⟩ hns) ci_X12_oldOne qm_X12_195 ⟨Nat.le_of_ble_eq_true rfl, Nat.le_of_ble_eq_true rfl⟩ ⟨Nat.le_of_ble_eq_true rfl, Nat.le_of_ble_eq_true rfl⟩ [2, 3, 0, 1] [] rfl rfl rfl rfl rfl (by decide) 0 rfl rfl rfl hl.1 rfl (Nat.le_of_ble_eq_true rfl) dX12_anIce_99 (fun u_166 H locs hφ hP hD hS => ?_)
        obtain ⟨I_167, L_168, F_169, G_170⟩ := u_166
        obtain ⟨p_172, p_173, p_174, p_175⟩ : ((0 ≤ ((I_167 2) : Int) ∧ ((I_167 2) : Int) ≤ (I_167 3)) ∧ (((I_167 3) : Int) ≤ Msz ∧ (Msz : Int) ≤ 900) ∧ (0 ≤ ((I_167 1) : Int) ∧ ((I_167 1) : Int) ≤ 4) ∧ (((I_167 1) : Int) = 0 ∨ ((I_167 2) : Int) < (I_167 3)) ∧ (-1 ≤ ((I_167 4) : Int) ∧ ((I_167 4) : Int) ≤ 100000)) ∧ (0 ≤ ((I_167 5) : Int) ∧ ((I_167 5) : Int) ≤ 9) ∧ ((((I_167 0) : Int) = 1 ∧ ∃ (q9 v9 : Int), xTr (tX Xf Msz) N (gz Af 3560) (-1) cut_32 = .inr (q9, v9) ∧ cut_32 < q9 ∧ RFX (tX Xf Msz) q9 (I_167 2) (I_167 3) (I_167 1) (I_167 4) ∧ (0 ≤ v9 ∧ v9 < (gz Af 3560)) ∧ (F_169 0) = upd (F_25 0) (iZ ((3606 + (4 * (gz Af 3561))) + 1)).toNatClampNeg (iZ v9) ∧ ((I_167 5) : Int) = 0 ∧ (I_167 6) = (I_23 6)) ∨ (((I_167 0) : Int) = 0 ∧ xTr (tX Xf Msz) N (gz Af 3560) (-1) cut_32 = .inl ((I_167 5), (I_167 6)) ∧ 1 ≤ ((I_167 5) : Int))) ∧ (((I_167 0) : Int) = 0 → KP (F_169 0) (F_25 0)) := hφ
        refine W.eq (g2 := F0 m 102 ls [.int (iZ (I_167 0))]) rfl ?_
        rcases p_174 with ⟨qt_176, cut_176, yt_176, st_176, lt_176, xt_176, rt_176, ht_176, ut_176, vt_176⟩ | ⟨qt_176, st_176, bt_176⟩
        ·
          rw [qt_176]
          obtain ⟨⟨ar_177, br_177⟩, cr_177, dr_177, er_177, gr_177, hr_177⟩ := id xt_176
          have kr_177 := tk_1 dr_177 (xKd_rg _ _)
          have wr_177 := xKw_rg (tX Xf Msz) cut_176
          replace kr_177 : Unit → _ := fun _ => kr_177
          replace er_177 : Unit → _ := fun _ => er_177
          replace gr_177 : Unit → _ := fun _ => gr_177
          replace hr_177 : Unit → _ := fun _ => hr_177
          clear p_175
          have kp_178 := KP.up ht_176 ⟨by omega, by omega⟩ ⟨by omega, by omega⟩
          have ns_179 := NSZ.far ns_35 ht_176 (Or.inl ⟨by omega, by omega⟩) ⟨by omega, by omega⟩
          have ms_180 := MSX.ic ms_36 ht_176 (by omega) (by omega) (by omega)
          have q0gv_181 : gz (F_169 0) 3560 = gz (F_25 0) 3560 := by have c9 := gz_upc (j := 3560) ht_176 ⟨by omega, by omega⟩ ⟨by omega, by omega⟩ (by omega); omega
          have q1gv_181 : gz (F_169 0) 3561 = gz (F_25 0) 3561 := by have c9 := gz_upc (j := 3561) ht_176 ⟨by omega, by omega⟩ ⟨by omega, by omega⟩ (by omega); omega
          have v0gv_181 : gz (F_169 0) (3606 + (4 * (gz Af 3561))) = gz (F_25 0) (3606 + (4 * (gz Af 3561))) := by have c9 := gz_upc (j := (3606 + (4 * (gz Af 3561)))) ht_176 ⟨by omega, by omega⟩ ⟨by omega, by omega⟩ (by omega); omega
          have v1gv_181 : gz (F_169 0) ((3606 + (4 * (gz Af 3561))) + 1) = yt_176 := by have c9 := gz_upc (j := ((3606 + (4 * (gz Af 3561))) + 1)) ht_176 ⟨by omega, by omega⟩ ⟨by omega, by omega⟩ (by omega); omega
          obtain ⟨z0gv_181, z1gv_181, z3gv_181, z4gv_181, z5gv_181, zSgv_181⟩ := id ns_179
          refine lv_if_ne (tgt := 107) hx hb dX12_anIce_102 (by decide) (fun _ => ?_) (fun c => absurd c (by decide))
          refine lv_aload_n hx hb dX12_anIce_107 rfl (lv_at hl 2 rfl) ?_
          refine va_ldcS hx hb hown hRR dX12_anIce_108 ?_
          refine lv_bipush (v := iZ 10) hx hb dX12_anIce_110 (by decide) ?_
          refine CSV (As := [.ref sa, .int (iZ 10)]) (rest := []) (wc := [(hm, .inr (12, [.ref Ma, .ref Mn, .int (iZ Mst), .long Mtp, .long Mbt, .ref Ms, .ref My, .ref Mt, .ref Mp, .ref Mx, .int (iZ Mtd), .int (iZ Msz), .int (iZ (I_167 1)), .int (iZ (I_167 2)), .int (iZ (I_167 3)), .int (iZ (I_167 4)), .int (iZ Mfk), .int (iZ (I_167 6)), .int (iZ (I_167 5)), .int (iZ Mse), .int (iZ Mlt), .ref Mo, .int (iZ Mdp), .int (iZ Mct), .ref Mk, .ref Ml, .ref Mb, .ref Mh, .ref Mc, .int (iZ Mdr), .int (iZ Mrs), .ref Mz, .ref Mr, .ref Mq, .int (iZ Mit), .int (iZ Mmk)])), (Mx, .inl (k 0, 900, .inl Xf))]) (wr := [(Ma, .inl (k 1, 5340, .inl (F_169 0))), (Mn, .inl (k 2, 36, .inr (.inl Nf)))]) hx hb hml hown hts hKK hP hD hS hA hSY hRR (y_wantWord l D k sa sv hm Ma Mn Ms My Mt Mp Mx Mo Mk Ml Mb Mh Mc Mz Mr Mq Mst Mtd Msz (I_167 1) (I_167 2) (I_167 3) (I_167 4) Mfk (I_167 6) (I_167 5) Mse Mlt Mdp Mct Mdr Mrs Mit Mmk Mtp Mbt Xf 10 cut_176 9 (by first | with_reducible assumption | exact ⟨⟨by omega, by omega⟩, ⟨by omega, by omega⟩, ⟨by omega, by omega⟩, by omega, by omega, by omega⟩) (by omega) xt_176 ⟨by omega, by omega⟩ ⟨by decide, by decide⟩) ci_X12_wantWord qm_X12_184 ⟨Nat.le_of_ble_eq_true rfl, Nat.le_of_ble_eq_true rfl⟩ ⟨Nat.le_of_ble_eq_true rfl, Nat.le_of_ble_eq_true rfl⟩ [0, 1] [2, 3] rfl rfl rfl rfl rfl (by decide) 0 rfl rfl rfl hl.1 rfl (Nat.le_of_ble_eq_true rfl) dX12_anIce_112 (fun u_183 H locs hφ hP hD hS => ?_)
          obtain ⟨I_184, L_185, F_186, G_187⟩ := u_183
          obtain ⟨p_189, p_190, p_191⟩ : ((0 ≤ ((I_184 2) : Int) ∧ ((I_184 2) : Int) ≤ (I_184 3)) ∧ (((I_184 3) : Int) ≤ Msz ∧ (Msz : Int) ≤ 900) ∧ (0 ≤ ((I_184 1) : Int) ∧ ((I_184 1) : Int) ≤ 4) ∧ (((I_184 1) : Int) = 0 ∨ ((I_184 2) : Int) < (I_184 3)) ∧ (-1 ≤ ((I_184 4) : Int) ∧ ((I_184 4) : Int) ≤ 100000)) ∧ (0 ≤ ((I_184 5) : Int) ∧ ((I_184 5) : Int) ≤ 9) ∧ ((((I_184 0) : Int) = 1 ∧ ∃ q9 : Int, xTw (tX Xf Msz) 9 cut_176 = .inr q9 ∧ cut_176 < q9 ∧ RFX (tX Xf Msz) q9 (I_184 2) (I_184 3) (I_184 1) (I_184 4) ∧ ((I_184 5) : Int) = 0 ∧ (I_184 6) = (I_167 6)) ∨ (((I_184 0) : Int) = 0 ∧ xTw (tX Xf Msz) 9 cut_176 = .inl ((I_184 5), (I_184 6)) ∧ 1 ≤ ((I_184 5) : Int))) := hφ
          refine W.eq (g2 := F0 m 115 ls [.int (iZ (I_184 0))]) rfl ?_
          rcases p_191 with ⟨qt_192, cut_192, st_192, lt_192, xt_192, ut_192, vt_192⟩ | ⟨qt_192, st_192, bt_192⟩
          ·
            rw [qt_192]
            obtain ⟨⟨ar_193, br_193⟩, cr_193, dr_193, er_193, gr_193, hr_193⟩ := id xt_192
            have kr_193 := tk_1 dr_193 (xKd_rg _ _)
            have wr_193 := xKw_rg (tX Xf Msz) cut_192
            replace kr_193 : Unit → _ := fun _ => kr_193
            replace er_193 : Unit → _ := fun _ => er_193
            replace gr_193 : Unit → _ := fun _ => gr_193
            replace hr_193 : Unit → _ := fun _ => hr_193
            refine lv_if_eq (tgt := 164) hx hb dX12_anIce_115 (by decide) (fun c => absurd c (by decide)) (fun _ => ?_)
            refine lv_aload_n hx hb dX12_anIce_118 rfl (lv_at hl 2 rfl) ?_
            refine lv_iload_n hx hb dX12_anIce_119 rfl (lv_at hl 1 rfl) ?_
            refine lv_iconst (v := iZ 2) hx hb dX12_anIce_120 (by decide) ?_
            refine lv_iadd hx hb dX12_anIce_121 ?_
            refine lv_topi (fun x_195 ex_195 => ?_)
            obtain rfl : x_195 = iZ ((3606 + (4 * (gz Af 3561))) + 2) := ex_195.trans (iZ_add (3606 + (4 * (gz Af 3561))) 2)
            refine lv_iconst (v := iZ 0) hx hb dX12_anIce_122 (by decide) ?_
            refine lv_sipush (v := iZ 400) hx hb dX12_anIce_123 (by decide) ?_
            refine CWV (As := [.int (iZ ((3606 + (4 * (gz Af 3561))) + 2)), .int (iZ 0), .int (iZ 400)]) (rest := []) (wc := [(hm, .inr (12, [.ref Ma, .ref Mn, .int (iZ Mst), .long Mtp, .long Mbt, .ref Ms, .ref My, .ref Mt, .ref Mp, .ref Mx, .int (iZ Mtd), .int (iZ Msz), .int (iZ (I_184 1)), .int (iZ (I_184 2)), .int (iZ (I_184 3)), .int (iZ (I_184 4)), .int (iZ Mfk), .int (iZ (I_184 6)), .int (iZ (I_184 5)), .int (iZ Mse), .int (iZ Mlt), .ref Mo, .int (iZ Mdp), .int (iZ Mct), .ref Mk, .ref Ml, .ref Mb, .ref Mh, .ref Mc, .int (iZ Mdr), .int (iZ Mrs), .ref Mz, .ref Mr, .ref Mq, .int (iZ Mit), .int (iZ Mmk)])), (Mx, .inl (k 0, 900, .inl Xf)), (Ma, .inl (k 1, 5340, .inl (F_169 0)))]) (wr := [(Mn, .inl (k 2, 36, .inr (.inl Nf)))]) hx hb hml hown hts hKK hP hD hS hA (y_number l D k hm Ma Mn Ms My Mt Mp Mx Mo Mk Ml Mb Mh Mc Mz Mr Mq Mst Mtd Msz (I_184 1) (I_184 2) (I_184 3) (I_184 4) Mfk (I_184 6) (I_184 5) Mse Mlt Mdp Mct Mdr Mrs Mit Mmk Mtp Mbt Xf (F_169 0) ((3606 + (4 * (gz Af 3561))) + 2) 0 400 cut_192 (by first | with_reducible assumption | exact ⟨⟨by omega, by omega⟩, ⟨by omega, by omega⟩, ⟨by omega, by omega⟩, by omega, by omega, by omega⟩) (by omega) xt_192 ⟨by omega, by omega⟩ ⟨by omega, by omega⟩ ⟨by omega, by omega⟩) ci_X12_number qm_X12_188 ⟨Nat.le_of_ble_eq_true rfl, Nat.le_of_ble_eq_true rfl⟩ ⟨Nat.le_of_ble_eq_true rfl, Nat.le_of_ble_eq_true rfl⟩ [2, 3, 0] [1] rfl rfl rfl rfl rfl (by decide) 0 rfl rfl rfl hl.1 rfl (Nat.le_of_ble_eq_true rfl) dX12_anIce_126 (fun u_196 H locs hφ hP hD hS => ?_)
            obtain ⟨I_197, L_198, F_199, G_200⟩ := u_196
            obtain ⟨p_202, p_203, p_204, p_205⟩ : ((0 ≤ ((I_197 2) : Int) ∧ ((I_197 2) : Int) ≤ (I_197 3)) ∧ (((I_197 3) : Int) ≤ Msz ∧ (Msz : Int) ≤ 900) ∧ (0 ≤ ((I_197 1) : Int) ∧ ((I_197 1) : Int) ≤ 4) ∧ (((I_197 1) : Int) = 0 ∨ ((I_197 2) : Int) < (I_197 3)) ∧ (-1 ≤ ((I_197 4) : Int) ∧ ((I_197 4) : Int) ≤ 100000)) ∧ (0 ≤ ((I_197 5) : Int) ∧ ((I_197 5) : Int) ≤ 9) ∧ ((((I_197 0) : Int) = 1 ∧ ∃ (q9 v9 : Int), xTn (tX Xf Msz) 0 400 cut_192 = .inr (q9, v9) ∧ cut_192 < q9 ∧ RFX (tX Xf Msz) q9 (I_197 2) (I_197 3) (I_197 1) (I_197 4) ∧ (0 ≤ v9 ∧ v9 ≤ 400) ∧ (F_199 0) = upd (F_169 0) (iZ ((3606 + (4 * (gz Af 3561))) + 2)).toNatClampNeg (iZ v9) ∧ ((I_197 5) : Int) = 0 ∧ (I_197 6) = (I_184 6)) ∨ (((I_197 0) : Int) = 0 ∧ xTn (tX Xf Msz) 0 400 cut_192 = .inl ((I_197 5), (I_197 6)) ∧ 1 ≤ ((I_197 5) : Int))) ∧ (((I_197 0) : Int) = 0 → (F_199 0) = (F_169 0)) := hφ
            refine W.eq (g2 := F0 m 129 ls [.int (iZ (I_197 0))]) rfl ?_
            rcases p_204 with ⟨qt_206, cut_206, yt_206, st_206, lt_206, xt_206, rt_206, ht_206, ut_206, vt_206⟩ | ⟨qt_206, st_206, bt_206⟩
            ·
              rw [qt_206]
              obtain ⟨⟨ar_207, br_207⟩, cr_207, dr_207, er_207, gr_207, hr_207⟩ := id xt_206
              have kr_207 := tk_1 dr_207 (xKd_rg _ _)
              have wr_207 := xKw_rg (tX Xf Msz) cut_206
              replace kr_207 : Unit → _ := fun _ => kr_207
              replace er_207 : Unit → _ := fun _ => er_207
              replace gr_207 : Unit → _ := fun _ => gr_207
              replace hr_207 : Unit → _ := fun _ => hr_207
              clear p_205
              have kp_208 := KP.up ht_206 ⟨by omega, by omega⟩ ⟨by omega, by omega⟩
              have ns_209 := NSZ.far ns_179 ht_206 (Or.inl ⟨by omega, by omega⟩) ⟨by omega, by omega⟩
              have ms_210 := MSX.ic ms_180 ht_206 (by omega) (by omega) (by omega)
              have q0gv_211 : gz (F_199 0) 3560 = gz (F_169 0) 3560 := by have c9 := gz_upc (j := 3560) ht_206 ⟨by omega, by omega⟩ ⟨by omega, by omega⟩ (by omega); omega
              have q1gv_211 : gz (F_199 0) 3561 = gz (F_169 0) 3561 := by have c9 := gz_upc (j := 3561) ht_206 ⟨by omega, by omega⟩ ⟨by omega, by omega⟩ (by omega); omega
              have v0gv_211 : gz (F_199 0) (3606 + (4 * (gz Af 3561))) = gz (F_169 0) (3606 + (4 * (gz Af 3561))) := by have c9 := gz_upc (j := (3606 + (4 * (gz Af 3561)))) ht_206 ⟨by omega, by omega⟩ ⟨by omega, by omega⟩ (by omega); omega
              have v1gv_211 : gz (F_199 0) ((3606 + (4 * (gz Af 3561))) + 1) = gz (F_169 0) ((3606 + (4 * (gz Af 3561))) + 1) := by have c9 := gz_upc (j := ((3606 + (4 * (gz Af 3561))) + 1)) ht_206 ⟨by omega, by omega⟩ ⟨by omega, by omega⟩ (by omega); omega
              have v2gv_211 : gz (F_199 0) ((3606 + (4 * (gz Af 3561))) + 2) = yt_206 := by have c9 := gz_upc (j := ((3606 + (4 * (gz Af 3561))) + 2)) ht_206 ⟨by omega, by omega⟩ ⟨by omega, by omega⟩ (by omega); omega
              obtain ⟨z0gv_211, z1gv_211, z3gv_211, z4gv_211, z5gv_211, zSgv_211⟩ := id ns_209
              refine lv_if_eq (tgt := 164) hx hb dX12_anIce_129 (by decide) (fun c => absurd c (by decide)) (fun _ => ?_)
              refine lv_aload_n hx hb dX12_anIce_132 rfl (lv_at hl 2 rfl) ?_
              refine va_ldcS hx hb hown hRR dX12_anIce_133 ?_
              refine lv_bipush (v := iZ 11) hx hb dX12_anIce_135 (by decide) ?_
              refine CSV (As := [.ref sa, .int (iZ 11)]) (rest := []) (wc := [(hm, .inr (12, [.ref Ma, .ref Mn, .int (iZ Mst), .long Mtp, .long Mbt, .ref Ms, .ref My, .ref Mt, .ref Mp, .ref Mx, .int (iZ Mtd), .int (iZ Msz), .int (iZ (I_197 1)), .int (iZ (I_197 2)), .int (iZ (I_197 3)), .int (iZ (I_197 4)), .int (iZ Mfk), .int (iZ (I_197 6)), .int (iZ (I_197 5)), .int (iZ Mse), .int (iZ Mlt), .ref Mo, .int (iZ Mdp), .int (iZ Mct), .ref Mk, .ref Ml, .ref Mb, .ref Mh, .ref Mc, .int (iZ Mdr), .int (iZ Mrs), .ref Mz, .ref Mr, .ref Mq, .int (iZ Mit), .int (iZ Mmk)])), (Mx, .inl (k 0, 900, .inl Xf))]) (wr := [(Mn, .inl (k 2, 36, .inr (.inl Nf))), (Ma, .inl (k 1, 5340, .inl (F_199 0)))]) hx hb hml hown hts hKK hP hD hS hA hSY hRR (y_wantWord l D k sa sv hm Ma Mn Ms My Mt Mp Mx Mo Mk Ml Mb Mh Mc Mz Mr Mq Mst Mtd Msz (I_197 1) (I_197 2) (I_197 3) (I_197 4) Mfk (I_197 6) (I_197 5) Mse Mlt Mdp Mct Mdr Mrs Mit Mmk Mtp Mbt Xf 11 cut_206 10 (by first | with_reducible assumption | exact ⟨⟨by omega, by omega⟩, ⟨by omega, by omega⟩, ⟨by omega, by omega⟩, by omega, by omega, by omega⟩) (by omega) xt_206 ⟨by omega, by omega⟩ ⟨by decide, by decide⟩) ci_X12_wantWord qm_X12_184 ⟨Nat.le_of_ble_eq_true rfl, Nat.le_of_ble_eq_true rfl⟩ ⟨Nat.le_of_ble_eq_true rfl, Nat.le_of_ble_eq_true rfl⟩ [1, 2] [0, 3] rfl rfl rfl rfl rfl (by decide) 0 rfl rfl rfl hl.1 rfl (Nat.le_of_ble_eq_true rfl) dX12_anIce_137 (fun u_213 H locs hφ hP hD hS => ?_)
              obtain ⟨I_214, L_215, F_216, G_217⟩ := u_213
              obtain ⟨p_219, p_220, p_221⟩ : ((0 ≤ ((I_214 2) : Int) ∧ ((I_214 2) : Int) ≤ (I_214 3)) ∧ (((I_214 3) : Int) ≤ Msz ∧ (Msz : Int) ≤ 900) ∧ (0 ≤ ((I_214 1) : Int) ∧ ((I_214 1) : Int) ≤ 4) ∧ (((I_214 1) : Int) = 0 ∨ ((I_214 2) : Int) < (I_214 3)) ∧ (-1 ≤ ((I_214 4) : Int) ∧ ((I_214 4) : Int) ≤ 100000)) ∧ (0 ≤ ((I_214 5) : Int) ∧ ((I_214 5) : Int) ≤ 9) ∧ ((((I_214 0) : Int) = 1 ∧ ∃ q9 : Int, xTw (tX Xf Msz) 10 cut_206 = .inr q9 ∧ cut_206 < q9 ∧ RFX (tX Xf Msz) q9 (I_214 2) (I_214 3) (I_214 1) (I_214 4) ∧ ((I_214 5) : Int) = 0 ∧ (I_214 6) = (I_197 6)) ∨ (((I_214 0) : Int) = 0 ∧ xTw (tX Xf Msz) 10 cut_206 = .inl ((I_214 5), (I_214 6)) ∧ 1 ≤ ((I_214 5) : Int))) := hφ
              refine W.eq (g2 := F0 m 140 ls [.int (iZ (I_214 0))]) rfl ?_
              rcases p_221 with ⟨qt_222, cut_222, st_222, lt_222, xt_222, ut_222, vt_222⟩ | ⟨qt_222, st_222, bt_222⟩
              ·
                rw [qt_222]
                obtain ⟨⟨ar_223, br_223⟩, cr_223, dr_223, er_223, gr_223, hr_223⟩ := id xt_222
                have kr_223 := tk_1 dr_223 (xKd_rg _ _)
                have wr_223 := xKw_rg (tX Xf Msz) cut_222
                replace kr_223 : Unit → _ := fun _ => kr_223
                replace er_223 : Unit → _ := fun _ => er_223
                replace gr_223 : Unit → _ := fun _ => gr_223
                replace hr_223 : Unit → _ := fun _ => hr_223
                refine lv_if_eq (tgt := 164) hx hb dX12_anIce_140 (by decide) (fun c => absurd c (by decide)) (fun _ => ?_)
                refine lv_aload_n hx hb dX12_anIce_143 rfl (lv_at hl 2 rfl) ?_
                refine lv_iload_n hx hb dX12_anIce_144 rfl (lv_at hl 1 rfl) ?_
                refine lv_iconst (v := iZ 3) hx hb dX12_anIce_145 (by decide) ?_
                refine lv_iadd hx hb dX12_anIce_146 ?_
                refine lv_topi (fun x_225 ex_225 => ?_)
                obtain rfl : x_225 = iZ ((3606 + (4 * (gz Af 3561))) + 3) := ex_225.trans (iZ_add (3606 + (4 * (gz Af 3561))) 3)
                refine lv_aload_n hx hb dX12_anIce_147 rfl (lv_at hl 2 rfl) ?_
                refine va_get (D := D) (ci := 12) (v := .ref Ma) (C := RX12) (T := TX12) (N := 36) hx hb hts iX12 hown hK hP 2 rfl rfl 0 (by decide) (hts _ qf_X12_7) (fun _ h => h) rfl dX12_anIce_148 ?_
                refine lv_iload_n hx hb dX12_anIce_151 rfl (lv_at hl 1 rfl) ?_
                refine lv_iconst (v := iZ 2) hx hb dX12_anIce_152 (by decide) ?_
                refine lv_iadd hx hb dX12_anIce_153 ?_
                refine lv_topi (fun x_226 ex_226 => ?_)
                obtain rfl : x_226 = iZ ((3606 + (4 * (gz Af 3561))) + 2) := ex_226.trans (iZ_add (3606 + (4 * (gz Af 3561))) 2)
                refine va_iald hx hb hK hP 1 1 rfl rfl (zin (e := ((3606 + (4 * (gz Af 3561))) + 2)) (n := 5340) ⟨by omega, by omega⟩ (by decide)) dX12_anIce_154 ?_
                refine lv_topi (fun x_227 ex_227 => ?_)
                obtain rfl : x_227 = iZ (gz (F_199 0) ((3606 + (4 * (gz Af 3561))) + 2)) := ex_227.trans (gz_eq ⟨by omega, by omega⟩)
                have h_228 := gz_rg (F_199 0) ((3606 + (4 * (gz Af 3561))) + 2)
                refine lv_sipush (v := iZ 400) hx hb dX12_anIce_155 (by decide) ?_
                refine CWV (As := [.int (iZ ((3606 + (4 * (gz Af 3561))) + 3)), .int (iZ (gz (F_199 0) ((3606 + (4 * (gz Af 3561))) + 2))), .int (iZ 400)]) (rest := []) (wc := [(hm, .inr (12, [.ref Ma, .ref Mn, .int (iZ Mst), .long Mtp, .long Mbt, .ref Ms, .ref My, .ref Mt, .ref Mp, .ref Mx, .int (iZ Mtd), .int (iZ Msz), .int (iZ (I_214 1)), .int (iZ (I_214 2)), .int (iZ (I_214 3)), .int (iZ (I_214 4)), .int (iZ Mfk), .int (iZ (I_214 6)), .int (iZ (I_214 5)), .int (iZ Mse), .int (iZ Mlt), .ref Mo, .int (iZ Mdp), .int (iZ Mct), .ref Mk, .ref Ml, .ref Mb, .ref Mh, .ref Mc, .int (iZ Mdr), .int (iZ Mrs), .ref Mz, .ref Mr, .ref Mq, .int (iZ Mit), .int (iZ Mmk)])), (Mx, .inl (k 0, 900, .inl Xf)), (Ma, .inl (k 1, 5340, .inl (F_199 0)))]) (wr := [(Mn, .inl (k 2, 36, .inr (.inl Nf)))]) hx hb hml hown hts hKK hP hD hS hA (y_number l D k hm Ma Mn Ms My Mt Mp Mx Mo Mk Ml Mb Mh Mc Mz Mr Mq Mst Mtd Msz (I_214 1) (I_214 2) (I_214 3) (I_214 4) Mfk (I_214 6) (I_214 5) Mse Mlt Mdp Mct Mdr Mrs Mit Mmk Mtp Mbt Xf (F_199 0) ((3606 + (4 * (gz Af 3561))) + 3) (gz (F_199 0) ((3606 + (4 * (gz Af 3561))) + 2)) 400 cut_222 (by first | with_reducible assumption | exact ⟨⟨by omega, by omega⟩, ⟨by omega, by omega⟩, ⟨by omega, by omega⟩, by omega, by omega, by omega⟩) (by omega) xt_222 ⟨by omega, by omega⟩ ⟨by omega, by omega⟩ ⟨by omega, by omega⟩) ci_X12_number qm_X12_188 ⟨Nat.le_of_ble_eq_true rfl, Nat.le_of_ble_eq_true rfl⟩ ⟨Nat.le_of_ble_eq_true rfl, Nat.le_of_ble_eq_true rfl⟩ [2, 3, 1] [0] rfl rfl rfl rfl rfl (by decide) 0 rfl rfl rfl hl.1 rfl (Nat.le_of_ble_eq_true rfl) dX12_anIce_158 (fun u_229 H locs hφ hP hD hS => ?_)
                obtain ⟨I_230, L_231, F_232, G_233⟩ := u_229
                obtain ⟨p_235, p_236, p_237, p_238⟩ : ((0 ≤ ((I_230 2) : Int) ∧ ((I_230 2) : Int) ≤ (I_230 3)) ∧ (((I_230 3) : Int) ≤ Msz ∧ (Msz : Int) ≤ 900) ∧ (0 ≤ ((I_230 1) : Int) ∧ ((I_230 1) : Int) ≤ 4) ∧ (((I_230 1) : Int) = 0 ∨ ((I_230 2) : Int) < (I_230 3)) ∧ (-1 ≤ ((I_230 4) : Int) ∧ ((I_230 4) : Int) ≤ 100000)) ∧ (0 ≤ ((I_230 5) : Int) ∧ ((I_230 5) : Int) ≤ 9) ∧ ((((I_230 0) : Int) = 1 ∧ ∃ (q9 v9 : Int), xTn (tX Xf Msz) (gz (F_199 0) ((3606 + (4 * (gz Af 3561))) + 2)) 400 cut_222 = .inr (q9, v9) ∧ cut_222 < q9 ∧ RFX (tX Xf Msz) q9 (I_230 2) (I_230 3) (I_230 1) (I_230 4) ∧ ((gz (F_199 0) ((3606 + (4 * (gz Af 3561))) + 2)) ≤ v9 ∧ v9 ≤ 400) ∧ (F_232 0) = upd (F_199 0) (iZ ((3606 + (4 * (gz Af 3561))) + 3)).toNatClampNeg (iZ v9) ∧ ((I_230 5) : Int) = 0 ∧ (I_230 6) = (I_214 6)) ∨ (((I_230 0) : Int) = 0 ∧ xTn (tX Xf Msz) (gz (F_199 0) ((3606 + (4 * (gz Af 3561))) + 2)) 400 cut_222 = .inl ((I_230 5), (I_230 6)) ∧ 1 ≤ ((I_230 5) : Int))) ∧ (((I_230 0) : Int) = 0 → (F_232 0) = (F_199 0)) := hφ
                refine W.eq (g2 := F0 m 161 ls [.int (iZ (I_230 0))]) rfl ?_
                rcases p_237 with ⟨qt_239, cut_239, yt_239, st_239, lt_239, xt_239, rt_239, ht_239, ut_239, vt_239⟩ | ⟨qt_239, st_239, bt_239⟩
                ·
                  rw [qt_239]
                  obtain ⟨⟨ar_240, br_240⟩, cr_240, dr_240, er_240, gr_240, hr_240⟩ := id xt_239
                  have kr_240 := tk_1 dr_240 (xKd_rg _ _)
                  have wr_240 := xKw_rg (tX Xf Msz) cut_239
                  replace kr_240 : Unit → _ := fun _ => kr_240
                  replace er_240 : Unit → _ := fun _ => er_240
                  replace gr_240 : Unit → _ := fun _ => gr_240
                  replace hr_240 : Unit → _ := fun _ => hr_240
                  clear p_238
                  have kp_241 := KP.up ht_239 ⟨by omega, by omega⟩ ⟨by omega, by omega⟩
                  have ns_242 := NSZ.far ns_209 ht_239 (Or.inl ⟨by omega, by omega⟩) ⟨by omega, by omega⟩
                  have ms_243 := MSX.ic ms_210 ht_239 (by omega) (by omega) (by omega)
                  have q0gv_244 : gz (F_232 0) 3560 = gz (F_199 0) 3560 := by have c9 := gz_upc (j := 3560) ht_239 ⟨by omega, by omega⟩ ⟨by omega, by omega⟩ (by omega); omega
                  have q1gv_244 : gz (F_232 0) 3561 = gz (F_199 0) 3561 := by have c9 := gz_upc (j := 3561) ht_239 ⟨by omega, by omega⟩ ⟨by omega, by omega⟩ (by omega); omega
                  have v0gv_244 : gz (F_232 0) (3606 + (4 * (gz Af 3561))) = gz (F_199 0) (3606 + (4 * (gz Af 3561))) := by have c9 := gz_upc (j := (3606 + (4 * (gz Af 3561)))) ht_239 ⟨by omega, by omega⟩ ⟨by omega, by omega⟩ (by omega); omega
                  have v1gv_244 : gz (F_232 0) ((3606 + (4 * (gz Af 3561))) + 1) = gz (F_199 0) ((3606 + (4 * (gz Af 3561))) + 1) := by have c9 := gz_upc (j := ((3606 + (4 * (gz Af 3561))) + 1)) ht_239 ⟨by omega, by omega⟩ ⟨by omega, by omega⟩ (by omega); omega
                  have v2gv_244 : gz (F_232 0) ((3606 + (4 * (gz Af 3561))) + 2) = gz (F_199 0) ((3606 + (4 * (gz Af 3561))) + 2) := by have c9 := gz_upc (j := ((3606 + (4 * (gz Af 3561))) + 2)) ht_239 ⟨by omega, by omega⟩ ⟨by omega, by omega⟩ (by omega); omega
                  have v3gv_244 : gz (F_232 0) ((3606 + (4 * (gz Af 3561))) + 3) = yt_239 := by have c9 := gz_upc (j := ((3606 + (4 * (gz Af 3561))) + 3)) ht_239 ⟨by omega, by omega⟩ ⟨by omega, by omega⟩ (by omega); omega
                  obtain ⟨z0gv_244, z1gv_244, z3gv_244, z4gv_244, z5gv_244, zSgv_244⟩ := id ns_242
                  refine lv_if_ne (tgt := 166) hx hb dX12_anIce_161 (by decide) (fun _ => ?_) (fun c => absurd c (by decide))
                  have hni := ms_243.2.1
                  refine lv_aload_n hx hb dX12_anIce_166 rfl (lv_at hl 2 rfl) ?_
                  refine va_get (D := D) (ci := 12) (v := .ref Ma) (C := RX12) (T := TX12) (N := 36) hx hb hts iX12 hown hK hP 1 rfl rfl 0 (by decide) (hts _ qf_X12_7) (fun _ h => h) rfl dX12_anIce_167 ?_
                  refine lv_sipush (v := iZ 3561) hx hb dX12_anIce_170 (by decide) ?_
                  refine lv_dup2_11 hx hb dX12_anIce_173 rfl rfl ?_
                  refine va_iald hx hb hK hP 3 1 rfl rfl (zin (e := 3561) (n := 5340) ⟨by omega, by omega⟩ (by decide)) dX12_anIce_174 ?_
                  refine lv_topi (fun x_246 ex_246 => ?_)
                  obtain rfl : x_246 = iZ (gz (F_232 0) 3561) := ex_246.trans (gz_eq ⟨by omega, by omega⟩)
                  have h_247 := gz_rg (F_232 0) 3561
                  refine lv_iconst (v := iZ 1) hx hb dX12_anIce_175 (by decide) ?_
                  refine lv_iadd hx hb dX12_anIce_176 ?_
                  refine lv_topi (fun x_248 ex_248 => ?_)
                  obtain rfl : x_248 = iZ ((gz (F_232 0) 3561) + 1) := ex_248.trans (iZ_add (gz (F_232 0) 3561) 1)
                  refine va_iast hx hb hK hP hD hS 3 1 rfl rfl (zin (e := 3561) (n := 5340) ⟨by omega, by omega⟩ (by decide)) dX12_anIce_177 (fun H locs hP hD hS => ?_)
                  obtain ⟨f_249, hf_249⟩ : ∃ gg9, gg9 = upd (F_232 0) (iZ 3561).toNatClampNeg (iZ ((gz (F_232 0) 3561) + 1)) := ⟨_, rfl⟩
                  rw [← hf_249] at hP hD
                  have kp_250 := KP.up hf_249 ⟨by omega, by omega⟩ ⟨by omega, by omega⟩
                  have ns_251 := NSZ.ice ns_242 hf_249 ⟨by omega, by omega⟩
                  have hu : f_249 = upd (F_232 0) (iZ 3561).toNatClampNeg (iZ (gz Af 3561 + 1)) := by rw [← hni]; exact hf_249
                  have ms_252 := MSX.ni (a := yt_32) (b := yt_176) (c := yt_206) (d := yt_239) ms_243 hu (by omega) (by omega) (by omega) (by omega) (by omega)
                  refine lv_iconst (v := iZ 1) hx hb dX12_anIce_178 (by decide) ?_
                  obtain ⟨mm0, mm1, mm2, mm3, mmF, mmG⟩ := id ms_252
                  exact EWz hx hb hr hlocks hS (fun i => [1, (I_230 1), (I_230 2), (I_230 3), (I_230 4), (I_230 5), (I_230 6)].getD i 0, fun i => [0].getD i 0, fun i => [f_249].getD i (fun _ => 0), fun i => [Nf].getD i (fun _ => 0)) rfl rfl ⟨(show (0 ≤ ((I_230 2) : Int) ∧ ((I_230 2) : Int) ≤ (I_230 3)) ∧ (((I_230 3) : Int) ≤ Msz ∧ (Msz : Int) ≤ 900) ∧ (0 ≤ ((I_230 1) : Int) ∧ ((I_230 1) : Int) ≤ 4) ∧ (((I_230 1) : Int) = 0 ∨ ((I_230 2) : Int) < (I_230 3)) ∧ (-1 ≤ ((I_230 4) : Int) ∧ ((I_230 4) : Int) ≤ 100000) from (by first | with_reducible assumption | exact ⟨⟨by omega, by omega⟩, ⟨by omega, by omega⟩, ⟨by omega, by omega⟩, by omega, by omega, by omega⟩)), (show 0 ≤ ((I_230 5) : Int) ∧ ((I_230 5) : Int) ≤ 9 from (by omega)), (show KP f_249 Af from (KP.tr kp_250 (KP.tr kp_241 (KP.tr kp_208 (KP.tr kp_178 kp_34))))), (show ((1 : Int) = 1 ∧ ∃ (q9 : Int) (G9 : Int → Int), xIce (tX Xf Msz) N (gz Af 3560) (gz Af 3561) G cu = (xBn (xTs (tX Xf Msz) 59 q9) fun r9 => .inr (r9, G9)) ∧ cu < q9 ∧ RFX (tX Xf Msz) q9 (I_230 2) (I_230 3) (I_230 1) (I_230 4) ∧ MSX f_249 (gz f_249 3560) (gz f_249 3561) (gz f_249 3562) (gz f_249 3678) F G9 ∧ (gz f_249 3560 = gz Af 3560 ∧ gz f_249 3561 = gz Af 3561 + 1 ∧ gz f_249 3562 = gz Af 3562 ∧ gz f_249 3678 = gz Af 3678) ∧ NSZ f_249 ∧ ((I_230 5) : Int) = 0 ∧ (I_230 6) = Mfp) ∨ ((1 : Int) = 0 ∧ xIce (tX Xf Msz) N (gz Af 3560) (gz Af 3561) G cu = .inl ((I_230 5), (I_230 6)) ∧ 1 ≤ ((I_230 5) : Int)) from (Or.inl ⟨rfl, cut_239, xUp (xUp (xUp (xUp G (((gz Af 3561) * 4) + 0) yt_32) (((gz Af 3561) * 4) + 1) yt_176) (((gz Af 3561) * 4) + 2) yt_206) (((gz Af 3561) * 4) + 3) yt_239, xIce_6 (by omega) st_32 (hno.trans st_176) st_192 st_206 st_222 st_239, by omega, xt_239, ⟨rfl, rfl, rfl, rfl, mmF, by rw [mm1]; exact mmG⟩, ⟨by omega, by omega, by omega, by omega⟩, ns_251, by omega, by omega⟩)), (show Nf = Nf from rfl)⟩ (hP.sub [1, 2, 3, 0] rfl) (hD.sub [1, 2, 3, 0] rfl rfl) dX12_anIce_179
                ·
                  rw [qt_239]
                  replace p_238 := p_238 qt_239
                  have kp_253 : KP (F_232 0) (F_199 0) := by rw [p_238]; exact KP.rf _
                  refine lv_if_ne (tgt := 166) hx hb dX12_anIce_161 (by decide) (fun c => absurd (by decide) c) (fun _ => ?_)
                  refine lv_iconst (v := iZ 0) hx hb dX12_anIce_164 (by decide) ?_
                  exact EWz hx hb hr hlocks hS (fun i => [0, (I_230 1), (I_230 2), (I_230 3), (I_230 4), (I_230 5), (I_230 6)].getD i 0, fun i => [0].getD i 0, fun i => [(F_232 0)].getD i (fun _ => 0), fun i => [Nf].getD i (fun _ => 0)) rfl rfl ⟨(show (0 ≤ ((I_230 2) : Int) ∧ ((I_230 2) : Int) ≤ (I_230 3)) ∧ (((I_230 3) : Int) ≤ Msz ∧ (Msz : Int) ≤ 900) ∧ (0 ≤ ((I_230 1) : Int) ∧ ((I_230 1) : Int) ≤ 4) ∧ (((I_230 1) : Int) = 0 ∨ ((I_230 2) : Int) < (I_230 3)) ∧ (-1 ≤ ((I_230 4) : Int) ∧ ((I_230 4) : Int) ≤ 100000) from (by first | with_reducible assumption | exact ⟨⟨by omega, by omega⟩, ⟨by omega, by omega⟩, ⟨by omega, by omega⟩, by omega, by omega, by omega⟩)), (show 0 ≤ ((I_230 5) : Int) ∧ ((I_230 5) : Int) ≤ 9 from (by omega)), (show KP (F_232 0) Af from (KP.tr kp_253 (KP.tr kp_208 (KP.tr kp_178 kp_34)))), (show ((0 : Int) = 1 ∧ ∃ (q9 : Int) (G9 : Int → Int), xIce (tX Xf Msz) N (gz Af 3560) (gz Af 3561) G cu = (xBn (xTs (tX Xf Msz) 59 q9) fun r9 => .inr (r9, G9)) ∧ cu < q9 ∧ RFX (tX Xf Msz) q9 (I_230 2) (I_230 3) (I_230 1) (I_230 4) ∧ MSX (F_232 0) (gz (F_232 0) 3560) (gz (F_232 0) 3561) (gz (F_232 0) 3562) (gz (F_232 0) 3678) F G9 ∧ (gz (F_232 0) 3560 = gz Af 3560 ∧ gz (F_232 0) 3561 = gz Af 3561 + 1 ∧ gz (F_232 0) 3562 = gz Af 3562 ∧ gz (F_232 0) 3678 = gz Af 3678) ∧ NSZ (F_232 0) ∧ ((I_230 5) : Int) = 0 ∧ (I_230 6) = Mfp) ∨ ((0 : Int) = 0 ∧ xIce (tX Xf Msz) N (gz Af 3560) (gz Af 3561) G cu = .inl ((I_230 5), (I_230 6)) ∧ 1 ≤ ((I_230 5) : Int)) from (Or.inr ⟨rfl, xIce_l5 (by omega) st_32 (hno.trans st_176) st_192 st_206 st_222 st_239, by omega⟩)), (show Nf = Nf from rfl)⟩ (hP.sub [1, 2, 3, 0] rfl) (hD.sub [1, 2, 3, 0] rfl rfl) dX12_anIce_165
              ·
                rw [qt_222]
                refine lv_if_eq (tgt := 164) hx hb dX12_anIce_140 (by decide) (fun _ => ?_) (fun c => absurd (by decide) c)
                refine lv_iconst (v := iZ 0) hx hb dX12_anIce_164 (by decide) ?_
                exact EWz hx hb hr hlocks hS (fun i => [0, (I_214 1), (I_214 2), (I_214 3), (I_214 4), (I_214 5), (I_214 6)].getD i 0, fun i => [0].getD i 0, fun i => [(F_199 0)].getD i (fun _ => 0), fun i => [Nf].getD i (fun _ => 0)) rfl rfl ⟨(show (0 ≤ ((I_214 2) : Int) ∧ ((I_214 2) : Int) ≤ (I_214 3)) ∧ (((I_214 3) : Int) ≤ Msz ∧ (Msz : Int) ≤ 900) ∧ (0 ≤ ((I_214 1) : Int) ∧ ((I_214 1) : Int) ≤ 4) ∧ (((I_214 1) : Int) = 0 ∨ ((I_214 2) : Int) < (I_214 3)) ∧ (-1 ≤ ((I_214 4) : Int) ∧ ((I_214 4) : Int) ≤ 100000) from (by first | with_reducible assumption | exact ⟨⟨by omega, by omega⟩, ⟨by omega, by omega⟩, ⟨by omega, by omega⟩, by omega, by omega, by omega⟩)), (show 0 ≤ ((I_214 5) : Int) ∧ ((I_214 5) : Int) ≤ 9 from (by omega)), (show KP (F_199 0) Af from (KP.tr kp_208 (KP.tr kp_178 kp_34))), (show ((0 : Int) = 1 ∧ ∃ (q9 : Int) (G9 : Int → Int), xIce (tX Xf Msz) N (gz Af 3560) (gz Af 3561) G cu = (xBn (xTs (tX Xf Msz) 59 q9) fun r9 => .inr (r9, G9)) ∧ cu < q9 ∧ RFX (tX Xf Msz) q9 (I_214 2) (I_214 3) (I_214 1) (I_214 4) ∧ MSX (F_199 0) (gz (F_199 0) 3560) (gz (F_199 0) 3561) (gz (F_199 0) 3562) (gz (F_199 0) 3678) F G9 ∧ (gz (F_199 0) 3560 = gz Af 3560 ∧ gz (F_199 0) 3561 = gz Af 3561 + 1 ∧ gz (F_199 0) 3562 = gz Af 3562 ∧ gz (F_199 0) 3678 = gz Af 3678) ∧ NSZ (F_199 0) ∧ ((I_214 5) : Int) = 0 ∧ (I_214 6) = Mfp) ∨ ((0 : Int) = 0 ∧ xIce (tX Xf Msz) N (gz Af 3560) (gz Af 3561) G cu = .inl ((I_214 5), (I_214 6)) ∧ 1 ≤ ((I_214 5) : Int)) from (Or.inr ⟨rfl, xIce_l4 (by omega) st_32 (hno.trans st_176) st_192 st_206 st_222, by omega⟩)), (show Nf = Nf from rfl)⟩ (hP.sub [2, 3, 1, 0] rfl) (hD.sub [2, 3, 1, 0] rfl rfl) dX12_anIce_165
            ·
              rw [qt_206]
              replace p_205 := p_205 qt_206
              have kp_256 : KP (F_199 0) (F_169 0) := by rw [p_205]; exact KP.rf _
              refine lv_if_eq (tgt := 164) hx hb dX12_anIce_129 (by decide) (fun _ => ?_) (fun c => absurd (by decide) c)
              refine lv_iconst (v := iZ 0) hx hb dX12_anIce_164 (by decide) ?_
              exact EWz hx hb hr hlocks hS (fun i => [0, (I_197 1), (I_197 2), (I_197 3), (I_197 4), (I_197 5), (I_197 6)].getD i 0, fun i => [0].getD i 0, fun i => [(F_199 0)].getD i (fun _ => 0), fun i => [Nf].getD i (fun _ => 0)) rfl rfl ⟨(show (0 ≤ ((I_197 2) : Int) ∧ ((I_197 2) : Int) ≤ (I_197 3)) ∧ (((I_197 3) : Int) ≤ Msz ∧ (Msz : Int) ≤ 900) ∧ (0 ≤ ((I_197 1) : Int) ∧ ((I_197 1) : Int) ≤ 4) ∧ (((I_197 1) : Int) = 0 ∨ ((I_197 2) : Int) < (I_197 3)) ∧ (-1 ≤ ((I_197 4) : Int) ∧ ((I_197 4) : Int) ≤ 100000) from (by first | with_reducible assumption | exact ⟨⟨by omega, by omega⟩, ⟨by omega, by omega⟩, ⟨by omega, by omega⟩, by omega, by omega, by omega⟩)), (show 0 ≤ ((I_197 5) : Int) ∧ ((I_197 5) : Int) ≤ 9 from (by omega)), (show KP (F_199 0) Af from (KP.tr kp_256 (KP.tr kp_178 kp_34))), (show ((0 : Int) = 1 ∧ ∃ (q9 : Int) (G9 : Int → Int), xIce (tX Xf Msz) N (gz Af 3560) (gz Af 3561) G cu = (xBn (xTs (tX Xf Msz) 59 q9) fun r9 => .inr (r9, G9)) ∧ cu < q9 ∧ RFX (tX Xf Msz) q9 (I_197 2) (I_197 3) (I_197 1) (I_197 4) ∧ MSX (F_199 0) (gz (F_199 0) 3560) (gz (F_199 0) 3561) (gz (F_199 0) 3562) (gz (F_199 0) 3678) F G9 ∧ (gz (F_199 0) 3560 = gz Af 3560 ∧ gz (F_199 0) 3561 = gz Af 3561 + 1 ∧ gz (F_199 0) 3562 = gz Af 3562 ∧ gz (F_199 0) 3678 = gz Af 3678) ∧ NSZ (F_199 0) ∧ ((I_197 5) : Int) = 0 ∧ (I_197 6) = Mfp) ∨ ((0 : Int) = 0 ∧ xIce (tX Xf Msz) N (gz Af 3560) (gz Af 3561) G cu = .inl ((I_197 5), (I_197 6)) ∧ 1 ≤ ((I_197 5) : Int)) from (Or.inr ⟨rfl, xIce_l3 (by omega) st_32 (hno.trans st_176) st_192 st_206, by omega⟩)), (show Nf = Nf from rfl)⟩ (hP.sub [1, 2, 3, 0] rfl) (hD.sub [1, 2, 3, 0] rfl rfl) dX12_anIce_165
          ·
            rw [qt_192]
            refine lv_if_eq (tgt := 164) hx hb dX12_anIce_115 (by decide) (fun _ => ?_) (fun c => absurd (by decide) c)
            refine lv_iconst (v := iZ 0) hx hb dX12_anIce_164 (by decide) ?_
            exact EWz hx hb hr hlocks hS (fun i => [0, (I_184 1), (I_184 2), (I_184 3), (I_184 4), (I_184 5), (I_184 6)].getD i 0, fun i => [0].getD i 0, fun i => [(F_169 0)].getD i (fun _ => 0), fun i => [Nf].getD i (fun _ => 0)) rfl rfl ⟨(show (0 ≤ ((I_184 2) : Int) ∧ ((I_184 2) : Int) ≤ (I_184 3)) ∧ (((I_184 3) : Int) ≤ Msz ∧ (Msz : Int) ≤ 900) ∧ (0 ≤ ((I_184 1) : Int) ∧ ((I_184 1) : Int) ≤ 4) ∧ (((I_184 1) : Int) = 0 ∨ ((I_184 2) : Int) < (I_184 3)) ∧ (-1 ≤ ((I_184 4) : Int) ∧ ((I_184 4) : Int) ≤ 100000) from (by first | with_reducible assumption | exact ⟨⟨by omega, by omega⟩, ⟨by omega, by omega⟩, ⟨by omega, by omega⟩, by omega, by omega, by omega⟩)), (show 0 ≤ ((I_184 5) : Int) ∧ ((I_184 5) : Int) ≤ 9 from (by omega)), (show KP (F_169 0) Af from (KP.tr kp_178 kp_34)), (show ((0 : Int) = 1 ∧ ∃ (q9 : Int) (G9 : Int → Int), xIce (tX Xf Msz) N (gz Af 3560) (gz Af 3561) G cu = (xBn (xTs (tX Xf Msz) 59 q9) fun r9 => .inr (r9, G9)) ∧ cu < q9 ∧ RFX (tX Xf Msz) q9 (I_184 2) (I_184 3) (I_184 1) (I_184 4) ∧ MSX (F_169 0) (gz (F_169 0) 3560) (gz (F_169 0) 3561) (gz (F_169 0) 3562) (gz (F_169 0) 3678) F G9 ∧ (gz (F_169 0) 3560 = gz Af 3560 ∧ gz (F_169 0) 3561 = gz Af 3561 + 1 ∧ gz (F_169 0) 3562 = gz Af 3562 ∧ gz (F_169 0) 3678 = gz Af 3678) ∧ NSZ (F_169 0) ∧ ((I_184 5) : Int) = 0 ∧ (I_184 6) = Mfp) ∨ ((0 : Int) = 0 ∧ xIce (tX Xf Msz) N (gz Af 3560) (gz Af 3561) G cu = .inl ((I_184 5), (I_184 6)) ∧ 1 ≤ ((I_184 5) : Int)) from (Or.inr ⟨rfl, xIce_l2 (by omega) st_32 (hno.trans st_176) st_192, by omega⟩)), (show Nf = Nf from rfl)⟩ (hP.sub [2, 3, 0, 1] rfl) (hD.sub [2, 3, 0, 1] rfl rfl) dX12_anIce_165
        ·
          rw [qt_176]
          replace p_175 := p_175 qt_176
          have kp_259 : KP (F_169 0) (F_25 0) := p_175
          refine lv_if_ne (tgt := 107) hx hb dX12_anIce_102 (by decide) (fun c => absurd (by decide) c) (fun _ => ?_)
          refine lv_iconst (v := iZ 0) hx hb dX12_anIce_105 (by decide) ?_
          exact EWz hx hb hr hlocks hS (fun i => [0, (I_167 1), (I_167 2), (I_167 3), (I_167 4), (I_167 5), (I_167 6)].getD i 0, fun i => [0].getD i 0, fun i => [(F_169 0)].getD i (fun _ => 0), fun i => [Nf].getD i (fun _ => 0)) rfl rfl ⟨(show (0 ≤ ((I_167 2) : Int) ∧ ((I_167 2) : Int) ≤ (I_167 3)) ∧ (((I_167 3) : Int) ≤ Msz ∧ (Msz : Int) ≤ 900) ∧ (0 ≤ ((I_167 1) : Int) ∧ ((I_167 1) : Int) ≤ 4) ∧ (((I_167 1) : Int) = 0 ∨ ((I_167 2) : Int) < (I_167 3)) ∧ (-1 ≤ ((I_167 4) : Int) ∧ ((I_167 4) : Int) ≤ 100000) from (by first | with_reducible assumption | exact ⟨⟨by omega, by omega⟩, ⟨by omega, by omega⟩, ⟨by omega, by omega⟩, by omega, by omega, by omega⟩)), (show 0 ≤ ((I_167 5) : Int) ∧ ((I_167 5) : Int) ≤ 9 from (by omega)), (show KP (F_169 0) Af from (KP.tr kp_259 kp_34)), (show ((0 : Int) = 1 ∧ ∃ (q9 : Int) (G9 : Int → Int), xIce (tX Xf Msz) N (gz Af 3560) (gz Af 3561) G cu = (xBn (xTs (tX Xf Msz) 59 q9) fun r9 => .inr (r9, G9)) ∧ cu < q9 ∧ RFX (tX Xf Msz) q9 (I_167 2) (I_167 3) (I_167 1) (I_167 4) ∧ MSX (F_169 0) (gz (F_169 0) 3560) (gz (F_169 0) 3561) (gz (F_169 0) 3562) (gz (F_169 0) 3678) F G9 ∧ (gz (F_169 0) 3560 = gz Af 3560 ∧ gz (F_169 0) 3561 = gz Af 3561 + 1 ∧ gz (F_169 0) 3562 = gz Af 3562 ∧ gz (F_169 0) 3678 = gz Af 3678) ∧ NSZ (F_169 0) ∧ ((I_167 5) : Int) = 0 ∧ (I_167 6) = Mfp) ∨ ((0 : Int) = 0 ∧ xIce (tX Xf Msz) N (gz Af 3560) (gz Af 3561) G cu = .inl ((I_167 5), (I_167 6)) ∧ 1 ≤ ((I_167 5) : Int)) from (Or.inr ⟨rfl, xIce_l1 (by omega) st_32 (hno.trans st_176), by omega⟩)), (show Nf = Nf from rfl)⟩ (hP.sub [0, 1, 2, 3] rfl) (hD.sub [0, 1, 2, 3] rfl rfl) dX12_anIce_106
    ·
      rw [qt_32]
      replace p_31 := p_31 qt_32
      have kp_261 : KP (F_25 0) Af := p_31
      refine lv_if_ne (tgt := 61) hx hb dX12_anIce_56 (by decide) (fun c => absurd (by decide) c) (fun _ => ?_)
      refine lv_iconst (v := iZ 0) hx hb dX12_anIce_59 (by decide) ?_
      exact EWz hx hb hr hlocks hS (fun i => [0, (I_23 1), (I_23 2), (I_23 3), (I_23 4), (I_23 5), (I_23 6)].getD i 0, fun i => [0].getD i 0, fun i => [(F_25 0)].getD i (fun _ => 0), fun i => [Nf].getD i (fun _ => 0)) rfl rfl ⟨(show (0 ≤ ((I_23 2) : Int) ∧ ((I_23 2) : Int) ≤ (I_23 3)) ∧ (((I_23 3) : Int) ≤ Msz ∧ (Msz : Int) ≤ 900) ∧ (0 ≤ ((I_23 1) : Int) ∧ ((I_23 1) : Int) ≤ 4) ∧ (((I_23 1) : Int) = 0 ∨ ((I_23 2) : Int) < (I_23 3)) ∧ (-1 ≤ ((I_23 4) : Int) ∧ ((I_23 4) : Int) ≤ 100000) from (by first | with_reducible assumption | exact ⟨⟨by omega, by omega⟩, ⟨by omega, by omega⟩, ⟨by omega, by omega⟩, by omega, by omega, by omega⟩)), (show 0 ≤ ((I_23 5) : Int) ∧ ((I_23 5) : Int) ≤ 9 from (by omega)), (show KP (F_25 0) Af from kp_261), (show ((0 : Int) = 1 ∧ ∃ (q9 : Int) (G9 : Int → Int), xIce (tX Xf Msz) N (gz Af 3560) (gz Af 3561) G cu = (xBn (xTs (tX Xf Msz) 59 q9) fun r9 => .inr (r9, G9)) ∧ cu < q9 ∧ RFX (tX Xf Msz) q9 (I_23 2) (I_23 3) (I_23 1) (I_23 4) ∧ MSX (F_25 0) (gz (F_25 0) 3560) (gz (F_25 0) 3561) (gz (F_25 0) 3562) (gz (F_25 0) 3678) F G9 ∧ (gz (F_25 0) 3560 = gz Af 3560 ∧ gz (F_25 0) 3561 = gz Af 3561 + 1 ∧ gz (F_25 0) 3562 = gz Af 3562 ∧ gz (F_25 0) 3678 = gz Af 3678) ∧ NSZ (F_25 0) ∧ ((I_23 5) : Int) = 0 ∧ (I_23 6) = Mfp) ∨ ((0 : Int) = 0 ∧ xIce (tX Xf Msz) N (gz Af 3560) (gz Af 3561) G cu = .inl ((I_23 5), (I_23 6)) ∧ 1 ≤ ((I_23 5) : Int)) from (Or.inr ⟨rfl, xIce_l0 (by omega) st_32, by omega⟩)), (show Nf = Nf from rfl)⟩ (hP.sub [0, 1, 2, 3] rfl) (hD.sub [0, 1, 2, 3] rfl rfl) dX12_anIce_60
  ·
    have c_10 := (zeq (x := iZ (gz Af 3561)) (y := iZ 8) rfl rfl ⟨by omega, by omega⟩ ⟨by omega, by omega⟩).mp c_10
    refine lv_aload_n hx hb dX12_anIce_37 rfl (lv_at hl 2 rfl) ?_
    refine lv_bipush (v := iZ 6) hx hb dX12_anIce_38 (by decide) ?_
    refine CWV (As := [.int (iZ 6)]) (rest := []) (wc := [(hm, .inr (12, [.ref Ma, .ref Mn, .int (iZ Mst), .long Mtp, .long Mbt, .ref Ms, .ref My, .ref Mt, .ref Mp, .ref Mx, .int (iZ Mtd), .int (iZ Msz), .int (iZ Mtk), .int (iZ Mfr), .int (iZ Men), .int (iZ Mva), .int (iZ Mfk), .int (iZ Mfp), .int (iZ Mfs), .int (iZ Mse), .int (iZ Mlt), .ref Mo, .int (iZ Mdp), .int (iZ Mct), .ref Mk, .ref Ml, .ref Mb, .ref Mh, .ref Mc, .int (iZ Mdr), .int (iZ Mrs), .ref Mz, .ref Mr, .ref Mq, .int (iZ Mit), .int (iZ Mmk)])), (Mx, .inl (k 0, 900, .inl Xf))]) (wr := [(Ma, .inl (k 1, 5340, .inl Af)), (Mn, .inl (k 2, 36, .inr (.inl Nf)))]) hx hb hml hown hts hKK hP hD hS hA (y_fails l D k hm Ma Mn Ms My Mt Mp Mx Mo Mk Ml Mb Mh Mc Mz Mr Mq Mst Mtd Msz Mtk Mfr Men Mva Mfk Mfp Mfs Mse Mlt Mdp Mct Mdr Mrs Mit Mmk Mtp Mbt Xf 6 cu ⟨by omega, by omega⟩ (by omega) hrf) ci_X12_fails qm_X12_164 ⟨Nat.le_of_ble_eq_true rfl, Nat.le_of_ble_eq_true rfl⟩ ⟨Nat.le_of_ble_eq_true rfl, Nat.le_of_ble_eq_true rfl⟩ [0, 1] [2, 3] rfl rfl rfl rfl rfl (by decide) 0 rfl rfl rfl hl.1 rfl (Nat.le_of_ble_eq_true rfl) dX12_anIce_40 (fun u_263 H locs hφ hP hD hS => ?_)
    obtain ⟨I_264, L_265, F_266, G_267⟩ := u_263
    obtain ⟨p_269, p_270⟩ : ((I_264 1) = xFl (tX Xf Msz) cu 6 ∧ (I_264 2) = xPl (tX Xf Msz) cu) ∧ (1 ≤ ((I_264 1) : Int) ∧ ((I_264 1) : Int) ≤ 9) := hφ
    refine W.eq (g2 := F0 m 43 ls [.int (iZ 0)]) rfl ?_
    exact EWz hx hb hr hlocks hS (fun i => [0, Mtk, Mfr, Men, Mva, (I_264 1), (I_264 2)].getD i 0, fun i => [0].getD i 0, fun i => [Af].getD i (fun _ => 0), fun i => [Nf].getD i (fun _ => 0)) rfl rfl ⟨(show (0 ≤ (Mfr : Int) ∧ (Mfr : Int) ≤ Men) ∧ ((Men : Int) ≤ Msz ∧ (Msz : Int) ≤ 900) ∧ (0 ≤ (Mtk : Int) ∧ (Mtk : Int) ≤ 4) ∧ ((Mtk : Int) = 0 ∨ (Mfr : Int) < Men) ∧ (-1 ≤ (Mva : Int) ∧ (Mva : Int) ≤ 100000) from (by first | with_reducible assumption | exact ⟨⟨by omega, by omega⟩, ⟨by omega, by omega⟩, ⟨by omega, by omega⟩, by omega, by omega, by omega⟩)), (show 0 ≤ ((I_264 1) : Int) ∧ ((I_264 1) : Int) ≤ 9 from (by omega)), (show KP Af Af from (KP.rf Af)), (show ((0 : Int) = 1 ∧ ∃ (q9 : Int) (G9 : Int → Int), xIce (tX Xf Msz) N (gz Af 3560) (gz Af 3561) G cu = (xBn (xTs (tX Xf Msz) 59 q9) fun r9 => .inr (r9, G9)) ∧ cu < q9 ∧ RFX (tX Xf Msz) q9 Mfr Men Mtk Mva ∧ MSX Af (gz Af 3560) (gz Af 3561) (gz Af 3562) (gz Af 3678) F G9 ∧ (gz Af 3560 = gz Af 3560 ∧ gz Af 3561 = gz Af 3561 + 1 ∧ gz Af 3562 = gz Af 3562 ∧ gz Af 3678 = gz Af 3678) ∧ NSZ Af ∧ ((I_264 1) : Int) = 0 ∧ (I_264 2) = Mfp) ∨ ((0 : Int) = 0 ∧ xIce (tX Xf Msz) N (gz Af 3560) (gz Af 3561) G cu = .inl ((I_264 1), (I_264 2)) ∧ 1 ≤ ((I_264 1) : Int)) from (Or.inr ⟨rfl, xIce_8 (by omega) p_269, by omega⟩)), (show Nf = Nf from rfl)⟩ (hP.sub [2, 3, 0, 1] rfl) (hD.sub [2, 3, 0, 1] rfl rfl) dX12_anIce_43
