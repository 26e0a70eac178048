set_option maxHeartbeats 4000000 in
set_option maxRecDepth 100000 in
theorem y_aLaw (l : Launch) (D : va_G) (k : Nat → ClassId) (sa sv : Nat) (hm : Nat) (Ma : Nat) (Mn : Nat) (Ms : Nat) (My : Nat) (Mt : Nat) (Mp : Nat) (Mx : Nat) (Mo : Nat) (Mk : Nat) (Ml : Nat) (Mb : Nat) (Mh : Nat) (Mc : Nat) (Mz : Nat) (Mr : Nat) (Mq : Nat) (Mst : Int) (Mtd : Int) (Msz : Int) (Mtk : Int) (Mfr : Int) (Men : Int) (Mva : Int) (Mfk : Int) (Mfp : Int) (Mfs : Int) (Mse : Int) (Mlt : Int) (Mdp : Int) (Mct : Int) (Mdr : Int) (Mrs : Int) (Mit : Int) (Mmk : Int) (Mtp : Int64) (Mbt : Int64) (Xf : Nat → Int32) (Af : Nat → Int32) (Nf : Nat → Int64) (cu : Int) (N : Int → Int) (F : Int → Int) (G : Int → Int) (hTI : (0 ≤ (Mfr : Int) ∧ (Mfr : Int) ≤ Men) ∧ ((Men : Int) ≤ Msz ∧ (Msz : Int) ≤ 900) ∧ (0 ≤ (Mtk : Int) ∧ (Mtk : Int) ≤ 4) ∧ ((Mtk : Int) = 0 ∨ (Mfr : Int) < Men) ∧ (-1 ≤ (Mva : Int) ∧ (Mva : Int) ≤ 100000)) (hf0 : Mfs = 0) (hrf : RFX (tX Xf Msz) cu Mfr Men Mtk Mva) (hNZ : NSZ Af) (htw : Mtk = 2) (hlt : Mlt = 0 ∨ Mlt = 1) (hms : MSX Af (gz Af 3560) (gz Af 3561) (gz Af 3562) (gz Af 3678) F G) : SD (σ := ((Nat → Int) × (Nat → Int64) × (Nat → Nat → Int32) × (Nat → Nat → Int64))) sa sv l yX12_aLaw cX12_aLaw 2 (some .boolean) 5 D k [.ref hm] [(hm, .inr (12, [.ref Ma, .ref Mn, .int (iZ Mst), .long Mtp, .long Mbt, .ref Ms, .ref My, .ref Mt, .ref Mp, .ref Mx, .int (iZ Mtd), .int (iZ Msz), .int (iZ Mtk), .int (iZ Mfr), .int (iZ Men), .int (iZ Mva), .int (iZ Mfk), .int (iZ Mfp), .int (iZ Mfs), .int (iZ Mse), .int (iZ Mlt), .ref Mo, .int (iZ Mdp), .int (iZ Mct), .ref Mk, .ref Ml, .ref Mb, .ref Mh, .ref Mc, .int (iZ Mdr), .int (iZ Mrs), .ref Mz, .ref Mr, .ref Mq, .int (iZ Mit), .int (iZ Mmk)])), (Mx, .inl (k 0, 900, .inl Xf)), (Ma, .inl (k 1, 5340, .inl Af)), (Mn, .inl (k 2, 36, .inr (.inl Nf)))] (fun u => some (.int (iZ (u.1 0)))) (fun u => ((0 ≤ ((u.1 2) : Int) ∧ ((u.1 2) : Int) ≤ (u.1 3)) ∧ (((u.1 3) : Int) ≤ Msz ∧ (Msz : Int) ≤ 900) ∧ (0 ≤ ((u.1 1) : Int) ∧ ((u.1 1) : Int) ≤ 4) ∧ (((u.1 1) : Int) = 0 ∨ ((u.1 2) : Int) < (u.1 3)) ∧ (-1 ≤ ((u.1 4) : Int) ∧ ((u.1 4) : Int) ≤ 100000)) ∧ (0 ≤ ((u.1 5) : Int) ∧ ((u.1 5) : Int) ≤ 9) ∧ (KP (u.2.2.1 0) Af) ∧ ((((u.1 0) : Int) = 1 ∧ ∃ q9 : Int, xLaw (tX Xf Msz) Mlt cu = (xBn (xTs (tX Xf Msz) 59 q9) fun r9 => .inr (r9, gz (u.2.2.1 0) 3562)) ∧ cu < q9 ∧ RFX (tX Xf Msz) q9 (u.1 2) (u.1 3) (u.1 1) (u.1 4) ∧ MSX (u.2.2.1 0) (gz (u.2.2.1 0) 3560) (gz (u.2.2.1 0) 3561) (gz (u.2.2.1 0) 3562) (gz (u.2.2.1 0) 3678) F G ∧ (gz (u.2.2.1 0) 3560 = gz Af 3560 ∧ gz (u.2.2.1 0) 3561 = gz Af 3561 ∧ gz (u.2.2.1 0) 3678 = gz Af 3678) ∧ NSZ (u.2.2.1 0) ∧ ((u.1 7) : Int) = 1 ∧ ((u.1 5) : Int) = 0 ∧ (u.1 6) = Mfp) ∨ (((u.1 0) : Int) = 0 ∧ xLaw (tX Xf Msz) Mlt cu = .inl ((u.1 5), (u.1 6)) ∧ 1 ≤ ((u.1 5) : Int))) ∧ (((u.1 7) : Int) = 0 ∨ ((u.1 7) : Int) = 1) ∧ ((u.2.2.2 0) = Nf)) (fun u => [(hm, .inr (12, [.ref Ma, .ref Mn, .int (iZ Mst), .long Mtp, .long Mbt, .ref Ms, .ref My, .ref Mt, .ref Mp, .ref Mx, .int (iZ Mtd), .int (iZ Msz), .int (iZ (u.1 1)), .int (iZ (u.1 2)), .int (iZ (u.1 3)), .int (iZ (u.1 4)), .int (iZ Mfk), .int (iZ (u.1 6)), .int (iZ (u.1 5)), .int (iZ Mse), .int (iZ (u.1 7)), .ref Mo, .int (iZ Mdp), .int (iZ Mct), .ref Mk, .ref Ml, .ref Mb, .ref Mh, .ref Mc, .int (iZ Mdr), .int (iZ Mrs), .ref Mz, .ref Mr, .ref Mq, .int (iZ Mit), .int (iZ Mmk)])), (Mx, .inl (k 0, 900, .inl Xf)), (Ma, .inl (k 1, 5340, .inl (u.2.2.1 0))), (Mn, .inl (k 2, 36, .inr (.inl (u.2.2.2 0))))]) := by
  refine MSS (by decide) (Nat.le_of_ble_eq_true rfl) (fun p e s m below meth c ls A hx hb hml hr hlocks hin hts hown hKK hP hD hS hA hSY hRR hl => ?_)
  have hK := hKK.1
  have hl : lv_has ls 2 [(0, .ref hm)] := hl
  obtain ⟨⟨ar_1, br_1⟩, cr_1, dr_1, er_1, gr_1, hr_1⟩ := id hrf
  have kr_1 := tk_1 dr_1 (xKd_rg _ _)
  have wr_1 := xKw_rg (tX Xf Msz) cu
  replace kr_1 : Unit → _ := fun _ => kr_1
  replace er_1 : Unit → _ := fun _ => er_1
  replace gr_1 : Unit → _ := fun _ => gr_1
  replace hr_1 : Unit → _ := fun _ => hr_1
  obtain ⟨nz0, nz1, nz3, nz4, nz5, nzS⟩ := id hNZ
  refine lv_aload_n hx hb dX12_aLaw_0 rfl (lv_at hl 0 rfl) ?_
  refine va_get (D := D) (ci := 12) (v := .int (iZ Mlt)) (C := RX12) (T := TX12) (N := 36) hx hb hts iX12 hown hK hP 0 rfl rfl 20 (by decide) (hts _ qf_X12_198) (fun _ h => h) rfl dX12_aLaw_1 ?_
  refine lv_if_eq (tgt := 13) hx hb dX12_aLaw_4 (by decide) (fun c_2 => ?_) (fun c_2 => ?_)
  ·
    have c_2 := (zeq (x := iZ Mlt) (y := iZ 0) rfl rfl ⟨by omega, by omega⟩ ⟨by omega, by omega⟩).mp c_2
    refine lv_aload_n hx hb dX12_aLaw_13 rfl (lv_at hl 0 rfl) ?_
    refine lv_iconst (v := iZ 1) hx hb dX12_aLaw_14 (by decide) ?_
    refine va_put (D := D) (ci := 12) (v := .int (iZ 1)) (ty := .boolean) (C := RX12) (T := TX12) (N := 36) hx hb hts iX12 tyX12 tyX12_ok nmX12 hown hK hP hD hS 0 rfl rfl 20 (by decide) (hts _ qf_X12_198) (fun _ h => h) rfl (by decide +kernel) rfl rfl (Nat.le_of_ble_eq_true rfl) dX12_aLaw_15 (fun H locs hP hD hS => ?_)
    refine lv_aload_n hx hb dX12_aLaw_18 rfl (lv_at hl 0 rfl) ?_
    refine CWV (As := []) (rest := []) (wc := [(hm, .inr (12, [.ref Ma, .ref Mn, .int (iZ Mst), .long Mtp, .long Mbt, .ref Ms, .ref My, .ref Mt, .ref Mp, .ref Mx, .int (iZ Mtd), .int (iZ Msz), .int (iZ Mtk), .int (iZ Mfr), .int (iZ Men), .int (iZ Mva), .int (iZ Mfk), .int (iZ Mfp), .int (iZ Mfs), .int (iZ Mse), .int (iZ 1), .ref Mo, .int (iZ Mdp), .int (iZ Mct), .ref Mk, .ref Ml, .ref Mb, .ref Mh, .ref Mc, .int (iZ Mdr), .int (iZ Mrs), .ref Mz, .ref Mr, .ref Mq, .int (iZ Mit), .int (iZ Mmk)])), (Mx, .inl (k 0, 900, .inl Xf))]) (wr := [(Ma, .inl (k 1, 5340, .inl Af)), (Mn, .inl (k 2, 36, .inr (.inl Nf)))]) hx hb hml hown hts hKK hP hD hS hA (y_onward l D k hm Ma Mn Ms My Mt Mp Mx Mo Mk Ml Mb Mh Mc Mz Mr Mq Mst Mtd Msz Mtk Mfr Men Mva Mfk Mfp Mfs Mse 1 Mdp Mct Mdr Mrs Mit Mmk Mtp Mbt Xf ⟨⟨by omega, by omega⟩, by omega⟩) ci_X12_onward qm_X12_158 ⟨Nat.le_of_ble_eq_true rfl, Nat.le_of_ble_eq_true rfl⟩ ⟨Nat.le_of_ble_eq_true rfl, Nat.le_of_ble_eq_true rfl⟩ [0, 1] [2, 3] rfl rfl rfl rfl rfl (by decide) 0 rfl rfl rfl hl.1 rfl (Nat.le_of_ble_eq_true rfl) dX12_aLaw_19 (fun u_3 H locs hφ hP hD hS => ?_)
    obtain ⟨I_4, L_5, F_6, G_7⟩ := u_3
    obtain ⟨p_9, p_10, p_11⟩ : (RFX (tX Xf Msz) Men (I_4 2) (I_4 3) (I_4 1) (I_4 4)) ∧ ((0 ≤ ((I_4 2) : Int) ∧ ((I_4 2) : Int) ≤ (I_4 3)) ∧ (((I_4 3) : Int) ≤ Msz ∧ (Msz : Int) ≤ 900) ∧ (0 ≤ ((I_4 1) : Int) ∧ ((I_4 1) : Int) ≤ 4) ∧ (((I_4 1) : Int) = 0 ∨ ((I_4 2) : Int) < (I_4 3)) ∧ (-1 ≤ ((I_4 4) : Int) ∧ ((I_4 4) : Int) ≤ 100000)) ∧ (Men ≤ (I_4 2)) := hφ
    have rx_12 := RFX.nx hrf p_9
    obtain ⟨⟨ar_13, br_13⟩, cr_13, dr_13, er_13, gr_13, hr_13⟩ := id rx_12
    have kr_13 := tk_1 dr_13 (xKd_rg _ _)
    have wr_13 := xKw_rg (tX Xf Msz) (xEn (tX Xf Msz) cu)
    replace kr_13 : Unit → _ := fun _ => kr_13
    replace er_13 : Unit → _ := fun _ => er_13
    replace gr_13 : Unit → _ := fun _ => gr_13
    replace hr_13 : Unit → _ := fun _ => hr_13
    refine W.eq (g2 := F0 m 22 ls []) rfl ?_
    refine lv_aload_n hx hb dX12_aLaw_22 rfl (lv_at hl 0 rfl) ?_
    refine va_ldcS hx hb hown hRR dX12_aLaw_23 ?_
    refine CSV (As := [.ref sa]) (rest := []) (wc := [(hm, .inr (12, [.ref Ma, .ref Mn, .int (iZ Mst), .long Mtp, .long Mbt, .ref Ms, .ref My, .ref Mt, .ref Mp, .ref Mx, .int (iZ Mtd), .int (iZ Msz), .int (iZ (I_4 1)), .int (iZ (I_4 2)), .int (iZ (I_4 3)), .int (iZ (I_4 4)), .int (iZ Mfk), .int (iZ Mfp), .int (iZ Mfs), .int (iZ Mse), .int (iZ 1), .ref Mo, .int (iZ Mdp), .int (iZ Mct), .ref Mk, .ref Ml, .ref Mb, .ref Mh, .ref Mc, .int (iZ Mdr), .int (iZ Mrs), .ref Mz, .ref Mr, .ref Mq, .int (iZ Mit), .int (iZ Mmk)])), (Mx, .inl (k 0, 900, .inl Xf))]) (wr := [(Ma, .inl (k 1, 5340, .inl Af)), (Mn, .inl (k 2, 36, .inr (.inl Nf)))]) hx hb hml hown hts hKK hP hD hS hA hSY hRR (y_inWords l D k sa sv ([.ref Ma, .ref Mn, .int (iZ Mst), .long Mtp, .long Mbt, .ref Ms, .ref My, .ref Mt, .ref Mp, .ref Mx, .int (iZ Mtd), .int (iZ Msz), .int (iZ (I_4 1)), .int (iZ (I_4 2)), .int (iZ (I_4 3)), .int (iZ (I_4 4)), .int (iZ Mfk), .int (iZ Mfp), .int (iZ Mfs), .int (iZ Mse), .int (iZ 1), .ref Mo, .int (iZ Mdp), .int (iZ Mct), .ref Mk, .ref Ml, .ref Mb, .ref Mh, .ref Mc, .int (iZ Mdr), .int (iZ Mrs), .ref Mz, .ref Mr, .ref Mq, .int (iZ Mit), .int (iZ Mmk)]) hm Mx Msz (I_4 1) (I_4 2) (I_4 3) Xf (xEn (tX Xf Msz) cu) rfl rfl rfl rfl rfl ⟨⟨⟨by omega, by omega⟩, by omega, by omega⟩, by omega, by omega⟩ ⟨⟨br_13, cr_13⟩, dr_13, gr_13 ()⟩) ci_X12_inWords qm_X12_167 ⟨Nat.le_of_ble_eq_true rfl, Nat.le_of_ble_eq_true rfl⟩ ⟨Nat.le_of_ble_eq_true rfl, Nat.le_of_ble_eq_true rfl⟩ [2, 3] [0, 1] rfl rfl rfl rfl rfl (by decide) 0 rfl rfl rfl hl.1 rfl (Nat.le_of_ble_eq_true rfl) dX12_aLaw_25 (fun u_14 H locs hφ hP hD hS => ?_)
    obtain ⟨I_15, L_16, F_17, G_18⟩ := u_14
    have p_20 : (I_15 0) = xPm (xKw (tX Xf Msz) (xEn (tX Xf Msz) cu)) := hφ
    have pm_21 := xPm_rg (xKw_rg (tX Xf Msz) (xEn (tX Xf Msz) cu))
    refine W.eq (g2 := F0 m 28 ls [.int (iZ (I_15 0))]) rfl ?_
    have pw12 : (I_15 0) = 12 ↔ xKw (tX Xf Msz) (xEn (tX Xf Msz) cu) = 12 := by have h9 := xPm_inj (a := xKw (tX Xf Msz) (xEn (tX Xf Msz) cu)) (b := 12) (by omega) (by omega); rw [p_20, ← h9, show xPm 12 = 12 from (by decide)]
    have pw13 : (I_15 0) = 13 ↔ xKw (tX Xf Msz) (xEn (tX Xf Msz) cu) = 13 := by have h9 := xPm_inj (a := xKw (tX Xf Msz) (xEn (tX Xf Msz) cu)) (b := 13) (by omega) (by omega); rw [p_20, ← h9, show xPm 13 = 13 from (by decide)]
    have pw4 : (I_15 0) = 6 ↔ xKw (tX Xf Msz) (xEn (tX Xf Msz) cu) = 4 := by have h9 := xPm_inj (a := xKw (tX Xf Msz) (xEn (tX Xf Msz) cu)) (b := 4) (by omega) (by omega); rw [p_20, ← h9, show xPm 4 = 6 from (by decide)]
    have pw14 : (I_15 0) = 14 ↔ xKw (tX Xf Msz) (xEn (tX Xf Msz) cu) = 14 := by have h9 := xPm_inj (a := xKw (tX Xf Msz) (xEn (tX Xf Msz) cu)) (b := 14) (by omega) (by omega); rw [p_20, ← h9, show xPm 14 = 14 from (by decide)]
    refine lv_istore_n (lv' := [(1, .int (iZ (I_15 0))), (0, .ref hm)]) hx hb dX12_aLaw_28 rfl hl (by decide) rfl (fun ls hl => ?_)
    refine lv_iload_n hx hb dX12_aLaw_29 rfl (lv_at hl 0 rfl) ?_
    refine lv_bipush (v := iZ 12) hx hb dX12_aLaw_30 (by decide) ?_
    refine lv_icmp_eq (tgt := 59) hx hb dX12_aLaw_32 (by decide) (fun c_22 => ?_) (fun c_22 => ?_)
    ·
      have c_22 := (zeq (x := iZ (I_15 0)) (y := iZ 12) rfl rfl ⟨by omega, by omega⟩ ⟨by omega, by omega⟩).mp c_22
      refine lv_aload_n hx hb dX12_aLaw_59 rfl (lv_at hl 1 rfl) ?_
      refine va_get (D := D) (ci := 12) (v := .ref Ma) (C := RX12) (T := TX12) (N := 36) hx hb hts iX12 hown hK hP 2 rfl rfl 0 (by decide) (hts _ qf_X12_7) (fun _ h => h) rfl dX12_aLaw_60 ?_
      refine lv_sipush (v := iZ 3562) hx hb dX12_aLaw_63 (by decide) ?_
      refine lv_iload_n hx hb dX12_aLaw_66 rfl (lv_at hl 0 rfl) ?_
      refine lv_bipush (v := iZ 12) hx hb dX12_aLaw_67 (by decide) ?_
      refine lv_icmp_ne (tgt := 76) hx hb dX12_aLaw_69 (by decide) (fun c_23 => ?_) (fun c_23 => ?_)
      ·
        have c_23 := mt (zeq (x := iZ (I_15 0)) (y := iZ 12) rfl rfl ⟨by omega, by omega⟩ ⟨by omega, by omega⟩).mpr c_23
        refine lv_iload_n hx hb dX12_aLaw_76 rfl (lv_at hl 0 rfl) ?_
        refine lv_bipush (v := iZ 13) hx hb dX12_aLaw_77 (by decide) ?_
        refine lv_icmp_ne (tgt := 86) hx hb dX12_aLaw_79 (by decide) (fun c_24 => ?_) (fun c_24 => ?_)
        ·
          have c_24 := mt (zeq (x := iZ (I_15 0)) (y := iZ 13) rfl rfl ⟨by omega, by omega⟩ ⟨by omega, by omega⟩).mpr c_24
          refine lv_iload_n hx hb dX12_aLaw_86 rfl (lv_at hl 0 rfl) ?_
          refine lv_bipush (v := iZ 6) hx hb dX12_aLaw_87 (by decide) ?_
          refine lv_icmp_ne (tgt := 96) hx hb dX12_aLaw_89 (by decide) (fun c_25 => ?_) (fun c_25 => ?_)
          ·
            have c_25 := mt (zeq (x := iZ (I_15 0)) (y := iZ 6) rfl rfl ⟨by omega, by omega⟩ ⟨by omega, by omega⟩).mpr c_25
            refine lv_iconst (v := iZ 3) hx hb dX12_aLaw_96 (by decide) ?_
            refine va_iast hx hb hK hP hD hS 0 1 rfl rfl (zin (e := 3562) (n := 5340) ⟨by omega, by omega⟩ (by decide)) dX12_aLaw_97 (fun H locs hP hD hS => ?_)
            obtain ⟨f_26, hf_26⟩ : ∃ gg9, gg9 = upd Af (iZ 3562).toNatClampNeg (iZ 3) := ⟨_, rfl⟩
            rw [← hf_26] at hP hD
            have kp_27 := KP.up hf_26 ⟨by omega, by omega⟩ ⟨by omega, by omega⟩
            have ns_28 := NSZ.far hNZ hf_26 (Or.inr rfl) ⟨by omega, by omega⟩
            have ms_29 := MSX.lw hms hf_26 (by omega) (by omega)
            refine lv_aload_n hx hb dX12_aLaw_98 rfl (lv_at hl 1 rfl) ?_
            refine CWV (As := []) (rest := []) (wc := [(hm, .inr (12, [.ref Ma, .ref Mn, .int (iZ Mst), .long Mtp, .long Mbt, .ref Ms, .ref My, .ref Mt, .ref Mp, .ref Mx, .int (iZ Mtd), .int (iZ Msz), .int (iZ (I_4 1)), .int (iZ (I_4 2)), .int (iZ (I_4 3)), .int (iZ (I_4 4)), .int (iZ Mfk), .int (iZ Mfp), .int (iZ Mfs), .int (iZ Mse), .int (iZ 1), .ref Mo, .int (iZ Mdp), .int (iZ Mct), .ref Mk, .ref Ml, .ref Mb, .ref Mh, .ref Mc, .int (iZ Mdr), .int (iZ Mrs), .ref Mz, .ref Mr, .ref Mq, .int (iZ Mit), .int (iZ Mmk)])), (Mx, .inl (k 0, 900, .inl Xf))]) (wr := [(Ma, .inl (k 1, 5340, .inl f_26)), (Mn, .inl (k 2, 36, .inr (.inl Nf)))]) hx hb hml hown hts hKK hP hD hS hA (y_onward l D k hm Ma Mn Ms My Mt Mp Mx Mo Mk Ml Mb Mh Mc Mz Mr Mq Mst Mtd Msz (I_4 1) (I_4 2) (I_4 3) (I_4 4) Mfk Mfp Mfs Mse 1 Mdp Mct Mdr Mrs Mit Mmk Mtp Mbt Xf ⟨⟨by omega, by omega⟩, by omega⟩) ci_X12_onward qm_X12_158 ⟨Nat.le_of_ble_eq_true rfl, Nat.le_of_ble_eq_true rfl⟩ ⟨Nat.le_of_ble_eq_true rfl, Nat.le_of_ble_eq_true rfl⟩ [2, 3] [0, 1] rfl rfl rfl rfl rfl (by decide) 0 rfl rfl rfl hl.1 rfl (Nat.le_of_ble_eq_true rfl) dX12_aLaw_99 (fun u_30 H locs hφ hP hD hS => ?_)
            obtain ⟨I_31, L_32, F_33, G_34⟩ := u_30
            obtain ⟨p_36, p_37, p_38⟩ : (RFX (tX Xf Msz) (I_4 3) (I_31 2) (I_31 3) (I_31 1) (I_31 4)) ∧ ((0 ≤ ((I_31 2) : Int) ∧ ((I_31 2) : Int) ≤ (I_31 3)) ∧ (((I_31 3) : Int) ≤ Msz ∧ (Msz : Int) ≤ 900) ∧ (0 ≤ ((I_31 1) : Int) ∧ ((I_31 1) : Int) ≤ 4) ∧ (((I_31 1) : Int) = 0 ∨ ((I_31 2) : Int) < (I_31 3)) ∧ (-1 ≤ ((I_31 4) : Int) ∧ ((I_31 4) : Int) ≤ 100000)) ∧ ((I_4 3) ≤ (I_31 2)) := hφ
            have rx_39 := RFX.nx rx_12 p_36
            obtain ⟨⟨ar_40, br_40⟩, cr_40, dr_40, er_40, gr_40, hr_40⟩ := id rx_39
            have kr_40 := tk_1 dr_40 (xKd_rg _ _)
            have wr_40 := xKw_rg (tX Xf Msz) (xEn (tX Xf Msz) (xEn (tX Xf Msz) cu))
            replace kr_40 : Unit → _ := fun _ => kr_40
            replace er_40 : Unit → _ := fun _ => er_40
            replace gr_40 : Unit → _ := fun _ => gr_40
            replace hr_40 : Unit → _ := fun _ => hr_40
            refine W.eq (g2 := F0 m 102 ls []) rfl ?_
            refine lv_iconst (v := iZ 1) hx hb dX12_aLaw_102 (by decide) ?_
            have hlo : xLo (xKw (tX Xf Msz) (xEn (tX Xf Msz) cu)) = 3 := by unfold xLo; rw [if_neg (by omega), if_neg (by omega), if_neg (by omega), if_pos (by omega)]
            obtain ⟨mm0, mm1, mm2, mm3, mmF, mmG⟩ := id ms_29
            exact EWz hx hb hr hlocks hS (fun i => [1, (I_31 1), (I_31 2), (I_31 3), (I_31 4), Mfs, Mfp, 1].getD i 0, fun i => [0].getD i 0, fun i => [f_26].getD i (fun _ => 0), fun i => [Nf].getD i (fun _ => 0)) rfl rfl ⟨(show (0 ≤ ((I_31 2) : Int) ∧ ((I_31 2) : Int) ≤ (I_31 3)) ∧ (((I_31 3) : Int) ≤ Msz ∧ (Msz : Int) ≤ 900) ∧ (0 ≤ ((I_31 1) : Int) ∧ ((I_31 1) : Int) ≤ 4) ∧ (((I_31 1) : Int) = 0 ∨ ((I_31 2) : Int) < (I_31 3)) ∧ (-1 ≤ ((I_31 4) : Int) ∧ ((I_31 4) : Int) ≤ 100000) from (by first | with_reducible assumption | exact ⟨⟨by omega, by omega⟩, ⟨by omega, by omega⟩, ⟨by omega, by omega⟩, by omega, by omega, by omega⟩)), (show 0 ≤ (Mfs : Int) ∧ (Mfs : Int) ≤ 9 from (by omega)), (show KP f_26 Af from kp_27), (show ((1 : Int) = 1 ∧ ∃ q9 : Int, xLaw (tX Xf Msz) Mlt cu = (xBn (xTs (tX Xf Msz) 59 q9) fun r9 => .inr (r9, gz f_26 3562)) ∧ cu < q9 ∧ RFX (tX Xf Msz) q9 (I_31 2) (I_31 3) (I_31 1) (I_31 4) ∧ MSX f_26 (gz f_26 3560) (gz f_26 3561) (gz f_26 3562) (gz f_26 3678) F G ∧ (gz f_26 3560 = gz Af 3560 ∧ gz f_26 3561 = gz Af 3561 ∧ gz f_26 3678 = gz Af 3678) ∧ NSZ f_26 ∧ (1 : Int) = 1 ∧ (Mfs : Int) = 0 ∧ Mfp = Mfp) ∨ ((1 : Int) = 0 ∧ xLaw (tX Xf Msz) Mlt cu = .inl (Mfs, Mfp) ∧ 1 ≤ (Mfs : Int)) from (Or.inl ⟨rfl, (xEn (tX Xf Msz) (xEn (tX Xf Msz) cu)), xLaw_2 (by omega) (hlo.trans mm2.symm) (by omega), by omega, rx_39, ⟨rfl, rfl, rfl, rfl, mmF, by rw [mm1]; exact mmG⟩, ⟨by omega, by omega, by omega⟩, ns_28, rfl, by omega, by omega⟩)), (show (1 : Int) = 0 ∨ (1 : Int) = 1 from (by omega)), (show Nf = Nf from rfl)⟩ (hP.sub [2, 3, 0, 1] rfl) (hD.sub [2, 3, 0, 1] rfl rfl) dX12_aLaw_103
          ·
            have c_25 := (zeq (x := iZ (I_15 0)) (y := iZ 6) rfl rfl ⟨by omega, by omega⟩ ⟨by omega, by omega⟩).mp c_25
            refine lv_iconst (v := iZ 2) hx hb dX12_aLaw_92 (by decide) ?_
            refine lv_goto (tgt := 97) hx hb dX12_aLaw_93 (by decide) ?_
            refine va_iast hx hb hK hP hD hS 0 1 rfl rfl (zin (e := 3562) (n := 5340) ⟨by omega, by omega⟩ (by decide)) dX12_aLaw_97 (fun H locs hP hD hS => ?_)
            obtain ⟨f_41, hf_41⟩ : ∃ gg9, gg9 = upd Af (iZ 3562).toNatClampNeg (iZ 2) := ⟨_, rfl⟩
            rw [← hf_41] at hP hD
            have kp_42 := KP.up hf_41 ⟨by omega, by omega⟩ ⟨by omega, by omega⟩
            have ns_43 := NSZ.far hNZ hf_41 (Or.inr rfl) ⟨by omega, by omega⟩
            have ms_44 := MSX.lw hms hf_41 (by omega) (by omega)
            refine lv_aload_n hx hb dX12_aLaw_98 rfl (lv_at hl 1 rfl) ?_
            refine CWV (As := []) (rest := []) (wc := [(hm, .inr (12, [.ref Ma, .ref Mn, .int (iZ Mst), .long Mtp, .long Mbt, .ref Ms, .ref My, .ref Mt, .ref Mp, .ref Mx, .int (iZ Mtd), .int (iZ Msz), .int (iZ (I_4 1)), .int (iZ (I_4 2)), .int (iZ (I_4 3)), .int (iZ (I_4 4)), .int (iZ Mfk), .int (iZ Mfp), .int (iZ Mfs), .int (iZ Mse), .int (iZ 1), .ref Mo, .int (iZ Mdp), .int (iZ Mct), .ref Mk, .ref Ml, .ref Mb, .ref Mh, .ref Mc, .int (iZ Mdr), .int (iZ Mrs), .ref Mz, .ref Mr, .ref Mq, .int (iZ Mit), .int (iZ Mmk)])), (Mx, .inl (k 0, 900, .inl Xf))]) (wr := [(Ma, .inl (k 1, 5340, .inl f_41)), (Mn, .inl (k 2, 36, .inr (.inl Nf)))]) hx hb hml hown hts hKK hP hD hS hA (y_onward l D k hm Ma Mn Ms My Mt Mp Mx Mo Mk Ml Mb Mh Mc Mz Mr Mq Mst Mtd Msz (I_4 1) (I_4 2) (I_4 3) (I_4 4) Mfk Mfp Mfs Mse 1 Mdp Mct Mdr Mrs Mit Mmk Mtp Mbt Xf ⟨⟨by omega, by omega⟩, by omega⟩) ci_X12_onward qm_X12_158 ⟨Nat.le_of_ble_eq_true rfl, Nat.le_of_ble_eq_true rfl⟩ ⟨Nat.le_of_ble_eq_true rfl, Nat.le_of_ble_eq_true rfl⟩ [2, 3] [0, 1] rfl rfl rfl rfl rfl (by decide) 0 rfl rfl rfl hl.1 rfl (Nat.le_of_ble_eq_true rfl) dX12_aLaw_99 (fun u_45 H locs hφ hP hD hS => ?_)
            obtain ⟨I_46, L_47, F_48, G_49⟩ := u_45
            obtain ⟨p_51, p_52, p_53⟩ : (RFX (tX Xf Msz) (I_4 3) (I_46 2) (I_46 3) (I_46 1) (I_46 4)) ∧ ((0 ≤ ((I_46 2) : Int) ∧ ((I_46 2) : Int) ≤ (I_46 3)) ∧ (((I_46 3) : Int) ≤ Msz ∧ (Msz : Int) ≤ 900) ∧ (0 ≤ ((I_46 1) : Int) ∧ ((I_46 1) : Int) ≤ 4) ∧ (((I_46 1) : Int) = 0 ∨ ((I_46 2) : Int) < (I_46 3)) ∧ (-1 ≤ ((I_46 4) : Int) ∧ ((I_46 4) : Int) ≤ 100000)) ∧ ((I_4 3) ≤ (I_46 2)) := hφ
            have rx_54 := RFX.nx rx_12 p_51
            obtain ⟨⟨ar_55, br_55⟩, cr_55, dr_55, er_55, gr_55, hr_55⟩ := id rx_54
            have kr_55 := tk_1 dr_55 (xKd_rg _ _)
            have wr_55 := xKw_rg (tX Xf Msz) (xEn (tX Xf Msz) (xEn (tX Xf Msz) cu))
            replace kr_55 : Unit → _ := fun _ => kr_55
            replace er_55 : Unit → _ := fun _ => er_55
            replace gr_55 : Unit → _ := fun _ => gr_55
            replace hr_55 : Unit → _ := fun _ => hr_55
            refine W.eq (g2 := F0 m 102 ls []) rfl ?_
            refine lv_iconst (v := iZ 1) hx hb dX12_aLaw_102 (by decide) ?_
            have hlo : xLo (xKw (tX Xf Msz) (xEn (tX Xf Msz) cu)) = 2 := by unfold xLo; rw [if_neg (by omega), if_neg (by omega), if_pos (by omega)]
            obtain ⟨mm0, mm1, mm2, mm3, mmF, mmG⟩ := id ms_44
            exact EWz hx hb hr hlocks hS (fun i => [1, (I_46 1), (I_46 2), (I_46 3), (I_46 4), Mfs, Mfp, 1].getD i 0, fun i => [0].getD i 0, fun i => [f_41].getD i (fun _ => 0), fun i => [Nf].getD i (fun _ => 0)) rfl rfl ⟨(show (0 ≤ ((I_46 2) : Int) ∧ ((I_46 2) : Int) ≤ (I_46 3)) ∧ (((I_46 3) : Int) ≤ Msz ∧ (Msz : Int) ≤ 900) ∧ (0 ≤ ((I_46 1) : Int) ∧ ((I_46 1) : Int) ≤ 4) ∧ (((I_46 1) : Int) = 0 ∨ ((I_46 2) : Int) < (I_46 3)) ∧ (-1 ≤ ((I_46 4) : Int) ∧ ((I_46 4) : Int) ≤ 100000) from (by first | with_reducible assumption | exact ⟨⟨by omega, by omega⟩, ⟨by omega, by omega⟩, ⟨by omega, by omega⟩, by omega, by omega, by omega⟩)), (show 0 ≤ (Mfs : Int) ∧ (Mfs : Int) ≤ 9 from (by omega)), (show KP f_41 Af from kp_42), (show ((1 : Int) = 1 ∧ ∃ q9 : Int, xLaw (tX Xf Msz) Mlt cu = (xBn (xTs (tX Xf Msz) 59 q9) fun r9 => .inr (r9, gz f_41 3562)) ∧ cu < q9 ∧ RFX (tX Xf Msz) q9 (I_46 2) (I_46 3) (I_46 1) (I_46 4) ∧ MSX f_41 (gz f_41 3560) (gz f_41 3561) (gz f_41 3562) (gz f_41 3678) F G ∧ (gz f_41 3560 = gz Af 3560 ∧ gz f_41 3561 = gz Af 3561 ∧ gz f_41 3678 = gz Af 3678) ∧ NSZ f_41 ∧ (1 : Int) = 1 ∧ (Mfs : Int) = 0 ∧ Mfp = Mfp) ∨ ((1 : Int) = 0 ∧ xLaw (tX Xf Msz) Mlt cu = .inl (Mfs, Mfp) ∧ 1 ≤ (Mfs : Int)) from (Or.inl ⟨rfl, (xEn (tX Xf Msz) (xEn (tX Xf Msz) cu)), xLaw_2 (by omega) (hlo.trans mm2.symm) (by omega), by omega, rx_54, ⟨rfl, rfl, rfl, rfl, mmF, by rw [mm1]; exact mmG⟩, ⟨by omega, by omega, by omega⟩, ns_43, rfl, by omega, by omega⟩)), (show (1 : Int) = 0 ∨ (1 : Int) = 1 from (by omega)), (show Nf = Nf from rfl)⟩ (hP.sub [2, 3, 0, 1] rfl) (hD.sub [2, 3, 0, 1] rfl rfl) dX12_aLaw_103
        ·
          have c_24 := (zeq (x := iZ (I_15 0)) (y := iZ 13) rfl rfl ⟨by omega, by omega⟩ ⟨by omega, by omega⟩).mp c_24
          refine lv_iconst (v := iZ 1) hx hb dX12_aLaw_82 (by decide) ?_
          refine lv_goto (tgt := 97) hx hb dX12_aLaw_83 (by decide) ?_
          refine va_iast hx hb hK hP hD hS 0 1 rfl rfl (zin (e := 3562) (n := 5340) ⟨by omega, by omega⟩ (by decide)) dX12_aLaw_97 (fun H locs hP hD hS => ?_)
          obtain ⟨f_56, hf_56⟩ : ∃ gg9, gg9 = upd Af (iZ 3562).toNatClampNeg (iZ 1) := ⟨_, rfl⟩
          rw [← hf_56] at hP hD
          have kp_57 := KP.up hf_56 ⟨by omega, by omega⟩ ⟨by omega, by omega⟩
          have ns_58 := NSZ.far hNZ hf_56 (Or.inr rfl) ⟨by omega, by omega⟩
          have ms_59 := MSX.lw hms hf_56 (by omega) (by omega)
          refine lv_aload_n hx hb dX12_aLaw_98 rfl (lv_at hl 1 rfl) ?_
          refine CWV (As := []) (rest := []) (wc := [(hm, .inr (12, [.ref Ma, .ref Mn, .int (iZ Mst), .long Mtp, .long Mbt, .ref Ms, .ref My, .ref Mt, .ref Mp, .ref Mx, .int (iZ Mtd), .int (iZ Msz), .int (iZ (I_4 1)), .int (iZ (I_4 2)), .int (iZ (I_4 3)), .int (iZ (I_4 4)), .int (iZ Mfk), .int (iZ Mfp), .int (iZ Mfs), .int (iZ Mse), .int (iZ 1), .ref Mo, .int (iZ Mdp), .int (iZ Mct), .ref Mk, .ref Ml, .ref Mb, .ref Mh, .ref Mc, .int (iZ Mdr), .int (iZ Mrs), .ref Mz, .ref Mr, .ref Mq, .int (iZ Mit), .int (iZ Mmk)])), (Mx, .inl (k 0, 900, .inl Xf))]) (wr := [(Ma, .inl (k 1, 5340, .inl f_56)), (Mn, .inl (k 2, 36, .inr (.inl Nf)))]) hx hb hml hown hts hKK hP hD hS hA (y_onward l D k hm Ma Mn Ms My Mt Mp Mx Mo Mk Ml Mb Mh Mc Mz Mr Mq Mst Mtd Msz (I_4 1) (I_4 2) (I_4 3) (I_4 4) Mfk Mfp Mfs Mse 1 Mdp Mct Mdr Mrs Mit Mmk Mtp Mbt Xf ⟨⟨by omega, by omega⟩, by omega⟩) ci_X12_onward qm_X12_158 ⟨Nat.le_of_ble_eq_true rfl, Nat.le_of_ble_eq_true rfl⟩ ⟨Nat.le_of_ble_eq_true rfl, Nat.le_of_ble_eq_true rfl⟩ [2, 3] [0, 1] rfl rfl rfl rfl rfl (by decide) 0 rfl rfl rfl hl.1 rfl (Nat.le_of_ble_eq_true rfl) dX12_aLaw_99 (fun u_60 H locs hφ hP hD hS => ?_)
          obtain ⟨I_61, L_62, F_63, G_64⟩ := u_60
          obtain ⟨p_66, p_67, p_68⟩ : (RFX (tX Xf Msz) (I_4 3) (I_61 2) (I_61 3) (I_61 1) (I_61 4)) ∧ ((0 ≤ ((I_61 2) : Int) ∧ ((I_61 2) : Int) ≤ (I_61 3)) ∧ (((I_61 3) : Int) ≤ Msz ∧ (Msz : Int) ≤ 900) ∧ (0 ≤ ((I_61 1) : Int) ∧ ((I_61 1) : Int) ≤ 4) ∧ (((I_61 1) : Int) = 0 ∨ ((I_61 2) : Int) < (I_61 3)) ∧ (-1 ≤ ((I_61 4) : Int) ∧ ((I_61 4) : Int) ≤ 100000)) ∧ ((I_4 3) ≤ (I_61 2)) := hφ
          have rx_69 := RFX.nx rx_12 p_66
          obtain ⟨⟨ar_70, br_70⟩, cr_70, dr_70, er_70, gr_70, hr_70⟩ := id rx_69
          have kr_70 := tk_1 dr_70 (xKd_rg _ _)
          have wr_70 := xKw_rg (tX Xf Msz) (xEn (tX Xf Msz) (xEn (tX Xf Msz) cu))
          replace kr_70 : Unit → _ := fun _ => kr_70
          replace er_70 : Unit → _ := fun _ => er_70
          replace gr_70 : Unit → _ := fun _ => gr_70
          replace hr_70 : Unit → _ := fun _ => hr_70
          refine W.eq (g2 := F0 m 102 ls []) rfl ?_
          refine lv_iconst (v := iZ 1) hx hb dX12_aLaw_102 (by decide) ?_
          have hlo : xLo (xKw (tX Xf Msz) (xEn (tX Xf Msz) cu)) = 1 := by unfold xLo; rw [if_neg (by omega), if_pos (by omega)]
          obtain ⟨mm0, mm1, mm2, mm3, mmF, mmG⟩ := id ms_59
          exact EWz hx hb hr hlocks hS (fun i => [1, (I_61 1), (I_61 2), (I_61 3), (I_61 4), Mfs, Mfp, 1].getD i 0, fun i => [0].getD i 0, fun i => [f_56].getD i (fun _ => 0), fun i => [Nf].getD i (fun _ => 0)) rfl rfl ⟨(show (0 ≤ ((I_61 2) : Int) ∧ ((I_61 2) : Int) ≤ (I_61 3)) ∧ (((I_61 3) : Int) ≤ Msz ∧ (Msz : Int) ≤ 900) ∧ (0 ≤ ((I_61 1) : Int) ∧ ((I_61 1) : Int) ≤ 4) ∧ (((I_61 1) : Int) = 0 ∨ ((I_61 2) : Int) < (I_61 3)) ∧ (-1 ≤ ((I_61 4) : Int) ∧ ((I_61 4) : Int) ≤ 100000) from (by first | with_reducible assumption | exact ⟨⟨by omega, by omega⟩, ⟨by omega, by omega⟩, ⟨by omega, by omega⟩, by omega, by omega, by omega⟩)), (show 0 ≤ (Mfs : Int) ∧ (Mfs : Int) ≤ 9 from (by omega)), (show KP f_56 Af from kp_57), (show ((1 : Int) = 1 ∧ ∃ q9 : Int, xLaw (tX Xf Msz) Mlt cu = (xBn (xTs (tX Xf Msz) 59 q9) fun r9 => .inr (r9, gz f_56 3562)) ∧ cu < q9 ∧ RFX (tX Xf Msz) q9 (I_61 2) (I_61 3) (I_61 1) (I_61 4) ∧ MSX f_56 (gz f_56 3560) (gz f_56 3561) (gz f_56 3562) (gz f_56 3678) F G ∧ (gz f_56 3560 = gz Af 3560 ∧ gz f_56 3561 = gz Af 3561 ∧ gz f_56 3678 = gz Af 3678) ∧ NSZ f_56 ∧ (1 : Int) = 1 ∧ (Mfs : Int) = 0 ∧ Mfp = Mfp) ∨ ((1 : Int) = 0 ∧ xLaw (tX Xf Msz) Mlt cu = .inl (Mfs, Mfp) ∧ 1 ≤ (Mfs : Int)) from (Or.inl ⟨rfl, (xEn (tX Xf Msz) (xEn (tX Xf Msz) cu)), xLaw_2 (by omega) (hlo.trans mm2.symm) (by omega), by omega, rx_69, ⟨rfl, rfl, rfl, rfl, mmF, by rw [mm1]; exact mmG⟩, ⟨by omega, by omega, by omega⟩, ns_58, rfl, by omega, by omega⟩)), (show (1 : Int) = 0 ∨ (1 : Int) = 1 from (by omega)), (show Nf = Nf from rfl)⟩ (hP.sub [2, 3, 0, 1] rfl) (hD.sub [2, 3, 0, 1] rfl rfl) dX12_aLaw_103
      ·
        have c_23 := (zeq (x := iZ (I_15 0)) (y := iZ 12) rfl rfl ⟨by omega, by omega⟩ ⟨by omega, by omega⟩).mp c_23
        refine lv_iconst (v := iZ 0) hx hb dX12_aLaw_72 (by decide) ?_
        refine lv_goto (tgt := 97) hx hb dX12_aLaw_73 (by decide) ?_
        refine va_iast hx hb hK hP hD hS 0 1 rfl rfl (zin (e := 3562) (n := 5340) ⟨by omega, by omega⟩ (by decide)) dX12_aLaw_97 (fun H locs hP hD hS => ?_)
        obtain ⟨f_71, hf_71⟩ : ∃ gg9, gg9 = upd Af (iZ 3562).toNatClampNeg (iZ 0) := ⟨_, rfl⟩
        rw [← hf_71] at hP hD
        have kp_72 := KP.up hf_71 ⟨by omega, by omega⟩ ⟨by omega, by omega⟩
        have ns_73 := NSZ.far hNZ hf_71 (Or.inr rfl) ⟨by omega, by omega⟩
        have ms_74 := MSX.lw hms hf_71 (by omega) (by omega)
        refine lv_aload_n hx hb dX12_aLaw_98 rfl (lv_at hl 1 rfl) ?_
        refine CWV (As := []) (rest := []) (wc := [(hm, .inr (12, [.ref Ma, .ref Mn, .int (iZ Mst), .long Mtp, .long Mbt, .ref Ms, .ref My, .ref Mt, .ref Mp, .ref Mx, .int (iZ Mtd), .int (iZ Msz), .int (iZ (I_4 1)), .int (iZ (I_4 2)), .int (iZ (I_4 3)), .int (iZ (I_4 4)), .int (iZ Mfk), .int (iZ Mfp), .int (iZ Mfs), .int (iZ Mse), .int (iZ 1), .ref Mo, .int (iZ Mdp), .int (iZ Mct), .ref Mk, .ref Ml, .ref Mb, .ref Mh, .ref Mc, .int (iZ Mdr), .int (iZ Mrs), .ref Mz, .ref Mr, .ref Mq, .int (iZ Mit), .int (iZ Mmk)])), (Mx, .inl (k 0, 900, .inl Xf))]) (wr := [(Ma, .inl (k 1, 5340, .inl f_71)), (Mn, .inl (k 2, 36, .inr (.inl Nf)))]) hx hb hml hown hts hKK hP hD hS hA (y_onward l D k hm Ma Mn Ms My Mt Mp Mx Mo Mk Ml Mb Mh Mc Mz Mr Mq Mst Mtd Msz (I_4 1) (I_4 2) (I_4 3) (I_4 4) Mfk Mfp Mfs Mse 1 Mdp Mct Mdr Mrs Mit Mmk Mtp Mbt Xf ⟨⟨by omega, by omega⟩, by omega⟩) ci_X12_onward qm_X12_158 ⟨Nat.le_of_ble_eq_true rfl, Nat.le_of_ble_eq_true rfl⟩ ⟨Nat.le_of_ble_eq_true rfl, Nat.le_of_ble_eq_true rfl⟩ [2, 3] [0, 1] rfl rfl rfl rfl rfl (by decide) 0 rfl rfl rfl hl.1 rfl (Nat.le_of_ble_eq_true rfl) dX12_aLaw_99 (fun u_75 H locs hφ hP hD hS => ?_)
        obtain ⟨I_76, L_77, F_78, G_79⟩ := u_75
        obtain ⟨p_81, p_82, p_83⟩ : (RFX (tX Xf Msz) (I_4 3) (I_76 2) (I_76 3) (I_76 1) (I_76 4)) ∧ ((0 ≤ ((I_76 2) : Int) ∧ ((I_76 2) : Int) ≤ (I_76 3)) ∧ (((I_76 3) : Int) ≤ Msz ∧ (Msz : Int) ≤ 900) ∧ (0 ≤ ((I_76 1) : Int) ∧ ((I_76 1) : Int) ≤ 4) ∧ (((I_76 1) : Int) = 0 ∨ ((I_76 2) : Int) < (I_76 3)) ∧ (-1 ≤ ((I_76 4) : Int) ∧ ((I_76 4) : Int) ≤ 100000)) ∧ ((I_4 3) ≤ (I_76 2)) := hφ
        have rx_84 := RFX.nx rx_12 p_81
        obtain ⟨⟨ar_85, br_85⟩, cr_85, dr_85, er_85, gr_85, hr_85⟩ := id rx_84
        have kr_85 := tk_1 dr_85 (xKd_rg _ _)
        have wr_85 := xKw_rg (tX Xf Msz) (xEn (tX Xf Msz) (xEn (tX Xf Msz) cu))
        replace kr_85 : Unit → _ := fun _ => kr_85
        replace er_85 : Unit → _ := fun _ => er_85
        replace gr_85 : Unit → _ := fun _ => gr_85
        replace hr_85 : Unit → _ := fun _ => hr_85
        refine W.eq (g2 := F0 m 102 ls []) rfl ?_
        refine lv_iconst (v := iZ 1) hx hb dX12_aLaw_102 (by decide) ?_
        have hlo : xLo (xKw (tX Xf Msz) (xEn (tX Xf Msz) cu)) = 0 := by unfold xLo; rw [if_pos (by omega)]
        obtain ⟨mm0, mm1, mm2, mm3, mmF, mmG⟩ := id ms_74
        exact EWz hx hb hr hlocks hS (fun i => [1, (I_76 1), (I_76 2), (I_76 3), (I_76 4), Mfs, Mfp, 1].getD i 0, fun i => [0].getD i 0, fun i => [f_71].getD i (fun _ => 0), fun i => [Nf].getD i (fun _ => 0)) rfl rfl ⟨(show (0 ≤ ((I_76 2) : Int) ∧ ((I_76 2) : Int) ≤ (I_76 3)) ∧ (((I_76 3) : Int) ≤ Msz ∧ (Msz : Int) ≤ 900) ∧ (0 ≤ ((I_76 1) : Int) ∧ ((I_76 1) : Int) ≤ 4) ∧ (((I_76 1) : Int) = 0 ∨ ((I_76 2) : Int) < (I_76 3)) ∧ (-1 ≤ ((I_76 4) : Int) ∧ ((I_76 4) : Int) ≤ 100000) from (by first | with_reducible assumption | exact ⟨⟨by omega, by omega⟩, ⟨by omega, by omega⟩, ⟨by omega, by omega⟩, by omega, by omega, by omega⟩)), (show 0 ≤ (Mfs : Int) ∧ (Mfs : Int) ≤ 9 from (by omega)), (show KP f_71 Af from kp_72), (show ((1 : Int) = 1 ∧ ∃ q9 : Int, xLaw (tX Xf Msz) Mlt cu = (xBn (xTs (tX Xf Msz) 59 q9) fun r9 => .inr (r9, gz f_71 3562)) ∧ cu < q9 ∧ RFX (tX Xf Msz) q9 (I_76 2) (I_76 3) (I_76 1) (I_76 4) ∧ MSX f_71 (gz f_71 3560) (gz f_71 3561) (gz f_71 3562) (gz f_71 3678) F G ∧ (gz f_71 3560 = gz Af 3560 ∧ gz f_71 3561 = gz Af 3561 ∧ gz f_71 3678 = gz Af 3678) ∧ NSZ f_71 ∧ (1 : Int) = 1 ∧ (Mfs : Int) = 0 ∧ Mfp = Mfp) ∨ ((1 : Int) = 0 ∧ xLaw (tX Xf Msz) Mlt cu = .inl (Mfs, Mfp) ∧ 1 ≤ (Mfs : Int)) from (Or.inl ⟨rfl, (xEn (tX Xf Msz) (xEn (tX Xf Msz) cu)), xLaw_2 (by omega) (hlo.trans mm2.symm) (by omega), by omega, rx_84, ⟨rfl, rfl, rfl, rfl, mmF, by rw [mm1]; exact mmG⟩, ⟨by omega, by omega, by omega⟩, ns_73, rfl, by omega, by omega⟩)), (show (1 : Int) = 0 ∨ (1 : Int) = 1 from (by omega)), (show Nf = Nf from rfl)⟩ (hP.sub [2, 3, 0, 1] rfl) (hD.sub [2, 3, 0, 1] rfl rfl) dX12_aLaw_103
    ·
      have c_22 := mt (zeq (x := iZ (I_15 0)) (y := iZ 12) rfl rfl ⟨by omega, by omega⟩ ⟨by omega, by omega⟩).mpr c_22
      refine lv_iload_n hx hb dX12_aLaw_35 rfl (lv_at hl 0 rfl) ?_
      refine lv_bipush (v := iZ 13) hx hb dX12_aLaw_36 (by decide) ?_
      refine lv_icmp_eq (tgt := 59) hx hb dX12_aLaw_38 (by decide) (fun c_86 => ?_) (fun c_86 => ?_)
      ·
        have c_86 := (zeq (x := iZ (I_15 0)) (y := iZ 13) rfl rfl ⟨by omega, by omega⟩ ⟨by omega, by omega⟩).mp c_86
        refine lv_aload_n hx hb dX12_aLaw_59 rfl (lv_at hl 1 rfl) ?_
        refine va_get (D := D) (ci := 12) (v := .ref Ma) (C := RX12) (T := TX12) (N := 36) hx hb hts iX12 hown hK hP 2 rfl rfl 0 (by decide) (hts _ qf_X12_7) (fun _ h => h) rfl dX12_aLaw_60 ?_
        refine lv_sipush (v := iZ 3562) hx hb dX12_aLaw_63 (by decide) ?_
        refine lv_iload_n hx hb dX12_aLaw_66 rfl (lv_at hl 0 rfl) ?_
        refine lv_bipush (v := iZ 12) hx hb dX12_aLaw_67 (by decide) ?_
        refine lv_icmp_ne (tgt := 76) hx hb dX12_aLaw_69 (by decide) (fun c_87 => ?_) (fun c_87 => ?_)
        ·
          have c_87 := mt (zeq (x := iZ (I_15 0)) (y := iZ 12) rfl rfl ⟨by omega, by omega⟩ ⟨by omega, by omega⟩).mpr c_87
          refine lv_iload_n hx hb dX12_aLaw_76 rfl (lv_at hl 0 rfl) ?_
          refine lv_bipush (v := iZ 13) hx hb dX12_aLaw_77 (by decide) ?_
          refine lv_icmp_ne (tgt := 86) hx hb dX12_aLaw_79 (by decide) (fun c_88 => ?_) (fun c_88 => ?_)
          ·
            have c_88 := mt (zeq (x := iZ (I_15 0)) (y := iZ 13) rfl rfl ⟨by omega, by omega⟩ ⟨by omega, by omega⟩).mpr c_88
            refine lv_iload_n hx hb dX12_aLaw_86 rfl (lv_at hl 0 rfl) ?_
            refine lv_bipush (v := iZ 6) hx hb dX12_aLaw_87 (by decide) ?_
            refine lv_icmp_ne (tgt := 96) hx hb dX12_aLaw_89 (by decide) (fun c_89 => ?_) (fun c_89 => ?_)
            ·
              have c_89 := mt (zeq (x := iZ (I_15 0)) (y := iZ 6) rfl rfl ⟨by omega, by omega⟩ ⟨by omega, by omega⟩).mpr c_89
              refine lv_iconst (v := iZ 3) hx hb dX12_aLaw_96 (by decide) ?_
              refine va_iast hx hb hK hP hD hS 0 1 rfl rfl (zin (e := 3562) (n := 5340) ⟨by omega, by omega⟩ (by decide)) dX12_aLaw_97 (fun H locs hP hD hS => ?_)
              obtain ⟨f_90, hf_90⟩ : ∃ gg9, gg9 = upd Af (iZ 3562).toNatClampNeg (iZ 3) := ⟨_, rfl⟩
              rw [← hf_90] at hP hD
              have kp_91 := KP.up hf_90 ⟨by omega, by omega⟩ ⟨by omega, by omega⟩
              have ns_92 := NSZ.far hNZ hf_90 (Or.inr rfl) ⟨by omega, by omega⟩
              have ms_93 := MSX.lw hms hf_90 (by omega) (by omega)
              refine lv_aload_n hx hb dX12_aLaw_98 rfl (lv_at hl 1 rfl) ?_
              refine CWV (As := []) (rest := []) (wc := [(hm, .inr (12, [.ref Ma, .ref Mn, .int (iZ Mst), .long Mtp, .long Mbt, .ref Ms, .ref My, .ref Mt, .ref Mp, .ref Mx, .int (iZ Mtd), .int (iZ Msz), .int (iZ (I_4 1)), .int (iZ (I_4 2)), .int (iZ (I_4 3)), .int (iZ (I_4 4)), .int (iZ Mfk), .int (iZ Mfp), .int (iZ Mfs), .int (iZ Mse), .int (iZ 1), .ref Mo, .int (iZ Mdp), .int (iZ Mct), .ref Mk, .ref Ml, .ref Mb, .ref Mh, .ref Mc, .int (iZ Mdr), .int (iZ Mrs), .ref Mz, .ref Mr, .ref Mq, .int (iZ Mit), .int (iZ Mmk)])), (Mx, .inl (k 0, 900, .inl Xf))]) (wr := [(Ma, .inl (k 1, 5340, .inl f_90)), (Mn, .inl (k 2, 36, .inr (.inl Nf)))]) hx hb hml hown hts hKK hP hD hS hA (y_onward l D k hm Ma Mn Ms My Mt Mp Mx Mo Mk Ml Mb Mh Mc Mz Mr Mq Mst Mtd Msz (I_4 1) (I_4 2) (I_4 3) (I_4 4) Mfk Mfp Mfs Mse 1 Mdp Mct Mdr Mrs Mit Mmk Mtp Mbt Xf ⟨⟨by omega, by omega⟩, by omega⟩) ci_X12_onward qm_X12_158 ⟨Nat.le_of_ble_eq_true rfl, Nat.le_of_ble_eq_true rfl⟩ ⟨Nat.le_of_ble_eq_true rfl, Nat.le_of_ble_eq_true rfl⟩ [2, 3] [0, 1] rfl rfl rfl rfl rfl (by decide) 0 rfl rfl rfl hl.1 rfl (Nat.le_of_ble_eq_true rfl) dX12_aLaw_99 (fun u_94 H locs hφ hP hD hS => ?_)
              obtain ⟨I_95, L_96, F_97, G_98⟩ := u_94
              obtain ⟨p_100, p_101, p_102⟩ : (RFX (tX Xf Msz) (I_4 3) (I_95 2) (I_95 3) (I_95 1) (I_95 4)) ∧ ((0 ≤ ((I_95 2) : Int) ∧ ((I_95 2) : Int) ≤ (I_95 3)) ∧ (((I_95 3) : Int) ≤ Msz ∧ (Msz : Int) ≤ 900) ∧ (0 ≤ ((I_95 1) : Int) ∧ ((I_95 1) : Int) ≤ 4) ∧ (((I_95 1) : Int) = 0 ∨ ((I_95 2) : Int) < (I_95 3)) ∧ (-1 ≤ ((I_95 4) : Int) ∧ ((I_95 4) : Int) ≤ 100000)) ∧ ((I_4 3) ≤ (I_95 2)) := hφ
              have rx_103 := RFX.nx rx_12 p_100
              obtain ⟨⟨ar_104, br_104⟩, cr_104, dr_104, er_104, gr_104, hr_104⟩ := id rx_103
              have kr_104 := tk_1 dr_104 (xKd_rg _ _)
              have wr_104 := xKw_rg (tX Xf Msz) (xEn (tX Xf Msz) (xEn (tX Xf Msz) cu))
              replace kr_104 : Unit → _ := fun _ => kr_104
              replace er_104 : Unit → _ := fun _ => er_104
              replace gr_104 : Unit → _ := fun _ => gr_104
              replace hr_104 : Unit → _ := fun _ => hr_104
              refine W.eq (g2 := F0 m 102 ls []) rfl ?_
              refine lv_iconst (v := iZ 1) hx hb dX12_aLaw_102 (by decide) ?_
              have hlo : xLo (xKw (tX Xf Msz) (xEn (tX Xf Msz) cu)) = 3 := by unfold xLo; rw [if_neg (by omega), if_neg (by omega), if_neg (by omega), if_pos (by omega)]
              obtain ⟨mm0, mm1, mm2, mm3, mmF, mmG⟩ := id ms_93
              exact EWz hx hb hr hlocks hS (fun i => [1, (I_95 1), (I_95 2), (I_95 3), (I_95 4), Mfs, Mfp, 1].getD i 0, fun i => [0].getD i 0, fun i => [f_90].getD i (fun _ => 0), fun i => [Nf].getD i (fun _ => 0)) rfl rfl ⟨(show (0 ≤ ((I_95 2) : Int) ∧ ((I_95 2) : Int) ≤ (I_95 3)) ∧ (((I_95 3) : Int) ≤ Msz ∧ (Msz : Int) ≤ 900) ∧ (0 ≤ ((I_95 1) : Int) ∧ ((I_95 1) : Int) ≤ 4) ∧ (((I_95 1) : Int) = 0 ∨ ((I_95 2) : Int) < (I_95 3)) ∧ (-1 ≤ ((I_95 4) : Int) ∧ ((I_95 4) : Int) ≤ 100000) from (by first | with_reducible assumption | exact ⟨⟨by omega, by omega⟩, ⟨by omega, by omega⟩, ⟨by omega, by omega⟩, by omega, by omega, by omega⟩)), (show 0 ≤ (Mfs : Int) ∧ (Mfs : Int) ≤ 9 from (by omega)), (show KP f_90 Af from kp_91), (show ((1 : Int) = 1 ∧ ∃ q9 : Int, xLaw (tX Xf Msz) Mlt cu = (xBn (xTs (tX Xf Msz) 59 q9) fun r9 => .inr (r9, gz f_90 3562)) ∧ cu < q9 ∧ RFX (tX Xf Msz) q9 (I_95 2) (I_95 3) (I_95 1) (I_95 4) ∧ MSX f_90 (gz f_90 3560) (gz f_90 3561) (gz f_90 3562) (gz f_90 3678) F G ∧ (gz f_90 3560 = gz Af 3560 ∧ gz f_90 3561 = gz Af 3561 ∧ gz f_90 3678 = gz Af 3678) ∧ NSZ f_90 ∧ (1 : Int) = 1 ∧ (Mfs : Int) = 0 ∧ Mfp = Mfp) ∨ ((1 : Int) = 0 ∧ xLaw (tX Xf Msz) Mlt cu = .inl (Mfs, Mfp) ∧ 1 ≤ (Mfs : Int)) from (Or.inl ⟨rfl, (xEn (tX Xf Msz) (xEn (tX Xf Msz) cu)), xLaw_2 (by omega) (hlo.trans mm2.symm) (by omega), by omega, rx_103, ⟨rfl, rfl, rfl, rfl, mmF, by rw [mm1]; exact mmG⟩, ⟨by omega, by omega, by omega⟩, ns_92, rfl, by omega, by omega⟩)), (show (1 : Int) = 0 ∨ (1 : Int) = 1 from (by omega)), (show Nf = Nf from rfl)⟩ (hP.sub [2, 3, 0, 1] rfl) (hD.sub [2, 3, 0, 1] rfl rfl) dX12_aLaw_103
            ·
              have c_89 := (zeq (x := iZ (I_15 0)) (y := iZ 6) rfl rfl ⟨by omega, by omega⟩ ⟨by omega, by omega⟩).mp c_89
              refine lv_iconst (v := iZ 2) hx hb dX12_aLaw_92 (by decide) ?_
              refine lv_goto (tgt := 97) hx hb dX12_aLaw_93 (by decide) ?_
              refine va_iast hx hb hK hP hD hS 0 1 rfl rfl (zin (e := 3562) (n := 5340) ⟨by omega, by omega⟩ (by decide)) dX12_aLaw_97 (fun H locs hP hD hS => ?_)
              obtain ⟨f_105, hf_105⟩ : ∃ gg9, gg9 = upd Af (iZ 3562).toNatClampNeg (iZ 2) := ⟨_, rfl⟩
              rw [← hf_105] at hP hD
              have kp_106 := KP.up hf_105 ⟨by omega, by omega⟩ ⟨by omega, by omega⟩
              have ns_107 := NSZ.far hNZ hf_105 (Or.inr rfl) ⟨by omega, by omega⟩
              have ms_108 := MSX.lw hms hf_105 (by omega) (by omega)
              refine lv_aload_n hx hb dX12_aLaw_98 rfl (lv_at hl 1 rfl) ?_
              refine CWV (As := []) (rest := []) (wc := [(hm, .inr (12, [.ref Ma, .ref Mn, .int (iZ Mst), .long Mtp, .long Mbt, .ref Ms, .ref My, .ref Mt, .ref Mp, .ref Mx, .int (iZ Mtd), .int (iZ Msz), .int (iZ (I_4 1)), .int (iZ (I_4 2)), .int (iZ (I_4 3)), .int (iZ (I_4 4)), .int (iZ Mfk), .int (iZ Mfp), .int (iZ Mfs), .int (iZ Mse), .int (iZ 1), .ref Mo, .int (iZ Mdp), .int (iZ Mct), .ref Mk, .ref Ml, .ref Mb, .ref Mh, .ref Mc, .int (iZ Mdr), .int (iZ Mrs), .ref Mz, .ref Mr, .ref Mq, .int (iZ Mit), .int (iZ Mmk)])), (Mx, .inl (k 0, 900, .inl Xf))]) (wr := [(Ma, .inl (k 1, 5340, .inl f_105)), (Mn, .inl (k 2, 36, .inr (.inl Nf)))]) hx hb hml hown hts hKK hP hD hS hA (y_onward l D k hm Ma Mn Ms My Mt Mp Mx Mo Mk Ml Mb Mh Mc Mz Mr Mq Mst Mtd Msz (I_4 1) (I_4 2) (I_4 3) (I_4 4) Mfk Mfp Mfs Mse 1 Mdp Mct Mdr Mrs Mit Mmk Mtp Mbt Xf ⟨⟨by omega, by omega⟩, by omega⟩) ci_X12_onward qm_X12_158 ⟨Nat.le_of_ble_eq_true rfl, Nat.le_of_ble_eq_true rfl⟩ ⟨Nat.le_of_ble_eq_true rfl, Nat.le_of_ble_eq_true rfl⟩ [2, 3] [0, 1] rfl rfl rfl rfl rfl (by decide) 0 rfl rfl rfl hl.1 rfl (Nat.le_of_ble_eq_true rfl) dX12_aLaw_99 (fun u_109 H locs hφ hP hD hS => ?_)
              obtain ⟨I_110, L_111, F_112, G_113⟩ := u_109
              obtain ⟨p_115, p_116, p_117⟩ : (RFX (tX Xf Msz) (I_4 3) (I_110 2) (I_110 3) (I_110 1) (I_110 4)) ∧ ((0 ≤ ((I_110 2) : Int) ∧ ((I_110 2) : Int) ≤ (I_110 3)) ∧ (((I_110 3) : Int) ≤ Msz ∧ (Msz : Int) ≤ 900) ∧ (0 ≤ ((I_110 1) : Int) ∧ ((I_110 1) : Int) ≤ 4) ∧ (((I_110 1) : Int) = 0 ∨ ((I_110 2) : Int) < (I_110 3)) ∧ (-1 ≤ ((I_110 4) : Int) ∧ ((I_110 4) : Int) ≤ 100000)) ∧ ((I_4 3) ≤ (I_110 2)) := hφ
              have rx_118 := RFX.nx rx_12 p_115
              obtain ⟨⟨ar_119, br_119⟩, cr_119, dr_119, er_119, gr_119, hr_119⟩ := id rx_118
              have kr_119 := tk_1 dr_119 (xKd_rg _ _)
              have wr_119 := xKw_rg (tX Xf Msz) (xEn (tX Xf Msz) (xEn (tX Xf Msz) cu))
              replace kr_119 : Unit → _ := fun _ => kr_119
              replace er_119 : Unit → _ := fun _ => er_119
              replace gr_119 : Unit → _ := fun _ => gr_119
              replace hr_119 : Unit → _ := fun _ => hr_119
              refine W.eq (g2 := F0 m 102 ls []) rfl ?_
              refine lv_iconst (v := iZ 1) hx hb dX12_aLaw_102 (by decide) ?_
              have hlo : xLo (xKw (tX Xf Msz) (xEn (tX Xf Msz) cu)) = 2 := by unfold xLo; rw [if_neg (by omega), if_neg (by omega), if_pos (by omega)]
              obtain ⟨mm0, mm1, mm2, mm3, mmF, mmG⟩ := id ms_108
              exact EWz hx hb hr hlocks hS (fun i => [1, (I_110 1), (I_110 2), (I_110 3), (I_110 4), Mfs, Mfp, 1].getD i 0, fun i => [0].getD i 0, fun i => [f_105].getD i (fun _ => 0), fun i => [Nf].getD i (fun _ => 0)) rfl rfl ⟨(show (0 ≤ ((I_110 2) : Int) ∧ ((I_110 2) : Int) ≤ (I_110 3)) ∧ (((I_110 3) : Int) ≤ Msz ∧ (Msz : Int) ≤ 900) ∧ (0 ≤ ((I_110 1) : Int) ∧ ((I_110 1) : Int) ≤ 4) ∧ (((I_110 1) : Int) = 0 ∨ ((I_110 2) : Int) < (I_110 3)) ∧ (-1 ≤ ((I_110 4) : Int) ∧ ((I_110 4) : Int) ≤ 100000) from (by first | with_reducible assumption | exact ⟨⟨by omega, by omega⟩, ⟨by omega, by omega⟩, ⟨by omega, by omega⟩, by omega, by omega, by omega⟩)), (show 0 ≤ (Mfs : Int) ∧ (Mfs : Int) ≤ 9 from (by omega)), (show KP f_105 Af from kp_106), (show ((1 : Int) = 1 ∧ ∃ q9 : Int, xLaw (tX Xf Msz) Mlt cu = (xBn (xTs (tX Xf Msz) 59 q9) fun r9 => .inr (r9, gz f_105 3562)) ∧ cu < q9 ∧ RFX (tX Xf Msz) q9 (I_110 2) (I_110 3) (I_110 1) (I_110 4) ∧ MSX f_105 (gz f_105 3560) (gz f_105 3561) (gz f_105 3562) (gz f_105 3678) F G ∧ (gz f_105 3560 = gz Af 3560 ∧ gz f_105 3561 = gz Af 3561 ∧ gz f_105 3678 = gz Af 3678) ∧ NSZ f_105 ∧ (1 : Int) = 1 ∧ (Mfs : Int) = 0 ∧ Mfp = Mfp) ∨ ((1 : Int) = 0 ∧ xLaw (tX Xf Msz) Mlt cu = .inl (Mfs, Mfp) ∧ 1 ≤ (Mfs : Int)) from (Or.inl ⟨rfl, (xEn (tX Xf Msz) (xEn (tX Xf Msz) cu)), xLaw_2 (by omega) (hlo.trans mm2.symm) (by omega), by omega, rx_118, ⟨rfl, rfl, rfl, rfl, mmF, by rw [mm1]; exact mmG⟩, ⟨by omega, by omega, by omega⟩, ns_107, rfl, by omega, by omega⟩)), (show (1 : Int) = 0 ∨ (1 : Int) = 1 from (by omega)), (show Nf = Nf from rfl)⟩ (hP.sub [2, 3, 0, 1] rfl) (hD.sub [2, 3, 0, 1] rfl rfl) dX12_aLaw_103
          ·
            have c_88 := (zeq (x := iZ (I_15 0)) (y := iZ 13) rfl rfl ⟨by omega, by omega⟩ ⟨by omega, by omega⟩).mp c_88
            refine lv_iconst (v := iZ 1) hx hb dX12_aLaw_82 (by decide) ?_
            refine lv_goto (tgt := 97) hx hb dX12_aLaw_83 (by decide) ?_
            refine va_iast hx hb hK hP hD hS 0 1 rfl rfl (zin (e := 3562) (n := 5340) ⟨by omega, by omega⟩ (by decide)) dX12_aLaw_97 (fun H locs hP hD hS => ?_)
            obtain ⟨f_120, hf_120⟩ : ∃ gg9, gg9 = upd Af (iZ 3562).toNatClampNeg (iZ 1) := ⟨_, rfl⟩
            rw [← hf_120] at hP hD
            have kp_121 := KP.up hf_120 ⟨by omega, by omega⟩ ⟨by omega, by omega⟩
            have ns_122 := NSZ.far hNZ hf_120 (Or.inr rfl) ⟨by omega, by omega⟩
            have ms_123 := MSX.lw hms hf_120 (by omega) (by omega)
            refine lv_aload_n hx hb dX12_aLaw_98 rfl (lv_at hl 1 rfl) ?_
            refine CWV (As := []) (rest := []) (wc := [(hm, .inr (12, [.ref Ma, .ref Mn, .int (iZ Mst), .long Mtp, .long Mbt, .ref Ms, .ref My, .ref Mt, .ref Mp, .ref Mx, .int (iZ Mtd), .int (iZ Msz), .int (iZ (I_4 1)), .int (iZ (I_4 2)), .int (iZ (I_4 3)), .int (iZ (I_4 4)), .int (iZ Mfk), .int (iZ Mfp), .int (iZ Mfs), .int (iZ Mse), .int (iZ 1), .ref Mo, .int (iZ Mdp), .int (iZ Mct), .ref Mk, .ref Ml, .ref Mb, .ref Mh, .ref Mc, .int (iZ Mdr), .int (iZ Mrs), .ref Mz, .ref Mr, .ref Mq, .int (iZ Mit), .int (iZ Mmk)])), (Mx, .inl (k 0, 900, .inl Xf))]) (wr := [(Ma, .inl (k 1, 5340, .inl f_120)), (Mn, .inl (k 2, 36, .inr (.inl Nf)))]) hx hb hml hown hts hKK hP hD hS hA (y_onward l D k hm Ma Mn Ms My Mt Mp Mx Mo Mk Ml Mb Mh Mc Mz Mr Mq Mst Mtd Msz (I_4 1) (I_4 2) (I_4 3) (I_4 4) Mfk Mfp Mfs Mse 1 Mdp Mct Mdr Mrs Mit Mmk Mtp Mbt Xf ⟨⟨by omega, by omega⟩, by omega⟩) ci_X12_onward qm_X12_158 ⟨Nat.le_of_ble_eq_true rfl, Nat.le_of_ble_eq_true rfl⟩ ⟨Nat.le_of_ble_eq_true rfl, Nat.le_of_ble_eq_true rfl⟩ [2, 3] [0, 1] rfl rfl rfl rfl rfl (by decide) 0 rfl rfl rfl hl.1 rfl (Nat.le_of_ble_eq_true rfl) dX12_aLaw_99 (fun u_124 H locs hφ hP hD hS => ?_)
            obtain ⟨I_125, L_126, F_127, G_128⟩ := u_124
            obtain ⟨p_130, p_131, p_132⟩ : (RFX (tX Xf Msz) (I_4 3) (I_125 2) (I_125 3) (I_125 1) (I_125 4)) ∧ ((0 ≤ ((I_125 2) : Int) ∧ ((I_125 2) : Int) ≤ (I_125 3)) ∧ (((I_125 3) : Int) ≤ Msz ∧ (Msz : Int) ≤ 900) ∧ (0 ≤ ((I_125 1) : Int) ∧ ((I_125 1) : Int) ≤ 4) ∧ (((I_125 1) : Int) = 0 ∨ ((I_125 2) : Int) < (I_125 3)) ∧ (-1 ≤ ((I_125 4) : Int) ∧ ((I_125 4) : Int) ≤ 100000)) ∧ ((I_4 3) ≤ (I_125 2)) := hφ
            have rx_133 := RFX.nx rx_12 p_130
            obtain ⟨⟨ar_134, br_134⟩, cr_134, dr_134, er_134, gr_134, hr_134⟩ := id rx_133
            have kr_134 := tk_1 dr_134 (xKd_rg _ _)
            have wr_134 := xKw_rg (tX Xf Msz) (xEn (tX Xf Msz) (xEn (tX Xf Msz) cu))
            replace kr_134 : Unit → _ := fun _ => kr_134
            replace er_134 : Unit → _ := fun _ => er_134
            replace gr_134 : Unit → _ := fun _ => gr_134
            replace hr_134 : Unit → _ := fun _ => hr_134
            refine W.eq (g2 := F0 m 102 ls []) rfl ?_
            refine lv_iconst (v := iZ 1) hx hb dX12_aLaw_102 (by decide) ?_
            have hlo : xLo (xKw (tX Xf Msz) (xEn (tX Xf Msz) cu)) = 1 := by unfold xLo; rw [if_neg (by omega), if_pos (by omega)]
            obtain ⟨mm0, mm1, mm2, mm3, mmF, mmG⟩ := id ms_123
            exact EWz hx hb hr hlocks hS (fun i => [1, (I_125 1), (I_125 2), (I_125 3), (I_125 4), Mfs, Mfp, 1].getD i 0, fun i => [0].getD i 0, fun i => [f_120].getD i (fun _ => 0), fun i => [Nf].getD i (fun _ => 0)) rfl rfl ⟨(show (0 ≤ ((I_125 2) : Int) ∧ ((I_125 2) : Int) ≤ (I_125 3)) ∧ (((I_125 3) : Int) ≤ Msz ∧ (Msz : Int) ≤ 900) ∧ (0 ≤ ((I_125 1) : Int) ∧ ((I_125 1) : Int) ≤ 4) ∧ (((I_125 1) : Int) = 0 ∨ ((I_125 2) : Int) < (I_125 3)) ∧ (-1 ≤ ((I_125 4) : Int) ∧ ((I_125 4) : Int) ≤ 100000) from (by first | with_reducible assumption | exact ⟨⟨by omega, by omega⟩, ⟨by omega, by omega⟩, ⟨by omega, by omega⟩, by omega, by omega, by omega⟩)), (show 0 ≤ (Mfs : Int) ∧ (Mfs : Int) ≤ 9 from (by omega)), (show KP f_120 Af from kp_121), (show ((1 : Int) = 1 ∧ ∃ q9 : Int, xLaw (tX Xf Msz) Mlt cu = (xBn (xTs (tX Xf Msz) 59 q9) fun r9 => .inr (r9, gz f_120 3562)) ∧ cu < q9 ∧ RFX (tX Xf Msz) q9 (I_125 2) (I_125 3) (I_125 1) (I_125 4) ∧ MSX f_120 (gz f_120 3560) (gz f_120 3561) (gz f_120 3562) (gz f_120 3678) F G ∧ (gz f_120 3560 = gz Af 3560 ∧ gz f_120 3561 = gz Af 3561 ∧ gz f_120 3678 = gz Af 3678) ∧ NSZ f_120 ∧ (1 : Int) = 1 ∧ (Mfs : Int) = 0 ∧ Mfp = Mfp) ∨ ((1 : Int) = 0 ∧ xLaw (tX Xf Msz) Mlt cu = .inl (Mfs, Mfp) ∧ 1 ≤ (Mfs : Int)) from (Or.inl ⟨rfl, (xEn (tX Xf Msz) (xEn (tX Xf Msz) cu)), xLaw_2 (by omega) (hlo.trans mm2.symm) (by omega), by omega, rx_133, ⟨rfl, rfl, rfl, rfl, mmF, by rw [mm1]; exact mmG⟩, ⟨by omega, by omega, by omega⟩, ns_122, rfl, by omega, by omega⟩)), (show (1 : Int) = 0 ∨ (1 : Int) = 1 from (by omega)), (show Nf = Nf from rfl)⟩ (hP.sub [2, 3, 0, 1] rfl) (hD.sub [2, 3, 0, 1] rfl rfl) dX12_aLaw_103
        ·
          have c_87 := (zeq (x := iZ (I_15 0)) (y := iZ 12) rfl rfl ⟨by omega, by omega⟩ ⟨by omega, by omega⟩).mp c_87
          refine lv_iconst (v := iZ 0) hx hb dX12_aLaw_72 (by decide) ?_
          refine lv_goto (tgt := 97) hx hb dX12_aLaw_73 (by decide) ?_
          refine va_iast hx hb hK hP hD hS 0 1 rfl rfl (zin (e := 3562) (n := 5340) ⟨by omega, by omega⟩ (by decide)) dX12_aLaw_97 (fun H locs hP hD hS => ?_)
          obtain ⟨f_135, hf_135⟩ : ∃ gg9, gg9 = upd Af (iZ 3562).toNatClampNeg (iZ 0) := ⟨_, rfl⟩
          rw [← hf_135] at hP hD
          have kp_136 := KP.up hf_135 ⟨by omega, by omega⟩ ⟨by omega, by omega⟩
          have ns_137 := NSZ.far hNZ hf_135 (Or.inr rfl) ⟨by omega, by omega⟩
          have ms_138 := MSX.lw hms hf_135 (by omega) (by omega)
          refine lv_aload_n hx hb dX12_aLaw_98 rfl (lv_at hl 1 rfl) ?_
          refine CWV (As := []) (rest := []) (wc := [(hm, .inr (12, [.ref Ma, .ref Mn, .int (iZ Mst), .long Mtp, .long Mbt, .ref Ms, .ref My, .ref Mt, .ref Mp, .ref Mx, .int (iZ Mtd), .int (iZ Msz), .int (iZ (I_4 1)), .int (iZ (I_4 2)), .int (iZ (I_4 3)), .int (iZ (I_4 4)), .int (iZ Mfk), .int (iZ Mfp), .int (iZ Mfs), .int (iZ Mse), .int (iZ 1), .ref Mo, .int (iZ Mdp), .int (iZ Mct), .ref Mk, .ref Ml, .ref Mb, .ref Mh, .ref Mc, .int (iZ Mdr), .int (iZ Mrs), .ref Mz, .ref Mr, .ref Mq, .int (iZ Mit), .int (iZ Mmk)])), (Mx, .inl (k 0, 900, .inl Xf))]) (wr := [(Ma, .inl (k 1, 5340, .inl f_135)), (Mn, .inl (k 2, 36, .inr (.inl Nf)))]) hx hb hml hown hts hKK hP hD hS hA (y_onward l D k hm Ma Mn Ms My Mt Mp Mx Mo Mk Ml Mb Mh Mc Mz Mr Mq Mst Mtd Msz (I_4 1) (I_4 2) (I_4 3) (I_4 4) Mfk Mfp Mfs Mse 1 Mdp Mct Mdr Mrs Mit Mmk Mtp Mbt Xf ⟨⟨by omega, by omega⟩, by omega⟩) ci_X12_onward qm_X12_158 ⟨Nat.le_of_ble_eq_true rfl, Nat.le_of_ble_eq_true rfl⟩ ⟨Nat.le_of_ble_eq_true rfl, Nat.le_of_ble_eq_true rfl⟩ [2, 3] [0, 1] rfl rfl rfl rfl rfl (by decide) 0 rfl rfl rfl hl.1 rfl (Nat.le_of_ble_eq_true rfl) dX12_aLaw_99 (fun u_139 H locs hφ hP hD hS => ?_)
          obtain ⟨I_140, L_141, F_142, G_143⟩ := u_139
          obtain ⟨p_145, p_146, p_147⟩ : (RFX (tX Xf Msz) (I_4 3) (I_140 2) (I_140 3) (I_140 1) (I_140 4)) ∧ ((0 ≤ ((I_140 2) : Int) ∧ ((I_140 2) : Int) ≤ (I_140 3)) ∧ (((I_140 3) : Int) ≤ Msz ∧ (Msz : Int) ≤ 900) ∧ (0 ≤ ((I_140 1) : Int) ∧ ((I_140 1) : Int) ≤ 4) ∧ (((I_140 1) : Int) = 0 ∨ ((I_140 2) : Int) < (I_140 3)) ∧ (-1 ≤ ((I_140 4) : Int) ∧ ((I_140 4) : Int) ≤ 100000)) ∧ ((I_4 3) ≤ (I_140 2)) := hφ
          have rx_148 := RFX.nx rx_12 p_145
          obtain ⟨⟨ar_149, br_149⟩, cr_149, dr_149, er_149, gr_149, hr_149⟩ := id rx_148
          have kr_149 := tk_1 dr_149 (xKd_rg _ _)
          have wr_149 := xKw_rg (tX Xf Msz) (xEn (tX Xf Msz) (xEn (tX Xf Msz) cu))
          replace kr_149 : Unit → _ := fun _ => kr_149
          replace er_149 : Unit → _ := fun _ => er_149
          replace gr_149 : Unit → _ := fun _ => gr_149
          replace hr_149 : Unit → _ := fun _ => hr_149
          refine W.eq (g2 := F0 m 102 ls []) rfl ?_
          refine lv_iconst (v := iZ 1) hx hb dX12_aLaw_102 (by decide) ?_
          have hlo : xLo (xKw (tX Xf Msz) (xEn (tX Xf Msz) cu)) = 0 := by unfold xLo; rw [if_pos (by omega)]
          obtain ⟨mm0, mm1, mm2, mm3, mmF, mmG⟩ := id ms_138
          exact EWz hx hb hr hlocks hS (fun i => [1, (I_140 1), (I_140 2), (I_140 3), (I_140 4), Mfs, Mfp, 1].getD i 0, fun i => [0].getD i 0, fun i => [f_135].getD i (fun _ => 0), fun i => [Nf].getD i (fun _ => 0)) rfl rfl ⟨(show (0 ≤ ((I_140 2) : Int) ∧ ((I_140 2) : Int) ≤ (I_140 3)) ∧ (((I_140 3) : Int) ≤ Msz ∧ (Msz : Int) ≤ 900) ∧ (0 ≤ ((I_140 1) : Int) ∧ ((I_140 1) : Int) ≤ 4) ∧ (((I_140 1) : Int) = 0 ∨ ((I_140 2) : Int) < (I_140 3)) ∧ (-1 ≤ ((I_140 4) : Int) ∧ ((I_140 4) : Int) ≤ 100000) from (by first | with_reducible assumption | exact ⟨⟨by omega, by omega⟩, ⟨by omega, by omega⟩, ⟨by omega, by omega⟩, by omega, by omega, by omega⟩)), (show 0 ≤ (Mfs : Int) ∧ (Mfs : Int) ≤ 9 from (by omega)), (show KP f_135 Af from kp_136), (show ((1 : Int) = 1 ∧ ∃ q9 : Int, xLaw (tX Xf Msz) Mlt cu = (xBn (xTs (tX Xf Msz) 59 q9) fun r9 => .inr (r9, gz f_135 3562)) ∧ cu < q9 ∧ RFX (tX Xf Msz) q9 (I_140 2) (I_140 3) (I_140 1) (I_140 4) ∧ MSX f_135 (gz f_135 3560) (gz f_135 3561) (gz f_135 3562) (gz f_135 3678) F G ∧ (gz f_135 3560 = gz Af 3560 ∧ gz f_135 3561 = gz Af 3561 ∧ gz f_135 3678 = gz Af 3678) ∧ NSZ f_135 ∧ (1 : Int) = 1 ∧ (Mfs : Int) = 0 ∧ Mfp = Mfp) ∨ ((1 : Int) = 0 ∧ xLaw (tX Xf Msz) Mlt cu = .inl (Mfs, Mfp) ∧ 1 ≤ (Mfs : Int)) from (Or.inl ⟨rfl, (xEn (tX Xf Msz) (xEn (tX Xf Msz) cu)), xLaw_2 (by omega) (hlo.trans mm2.symm) (by omega), by omega, rx_148, ⟨rfl, rfl, rfl, rfl, mmF, by rw [mm1]; exact mmG⟩, ⟨by omega, by omega, by omega⟩, ns_137, rfl, by omega, by omega⟩)), (show (1 : Int) = 0 ∨ (1 : Int) = 1 from (by omega)), (show Nf = Nf from rfl)⟩ (hP.sub [2, 3, 0, 1] rfl) (hD.sub [2, 3, 0, 1] rfl rfl) dX12_aLaw_103
      ·
        have c_86 := mt (zeq (x := iZ (I_15 0)) (y := iZ 13) rfl rfl ⟨by omega, by omega⟩ ⟨by omega, by omega⟩).mpr c_86
        refine lv_iload_n hx hb dX12_aLaw_41 rfl (lv_at hl 0 rfl) ?_
        refine lv_bipush (v := iZ 6) hx hb dX12_aLaw_42 (by decide) ?_
        refine lv_icmp_eq (tgt := 59) hx hb dX12_aLaw_44 (by decide) (fun c_150 => ?_) (fun c_150 => ?_)
        ·
          have c_150 := (zeq (x := iZ (I_15 0)) (y := iZ 6) rfl rfl ⟨by omega, by omega⟩ ⟨by omega, by omega⟩).mp c_150
          refine lv_aload_n hx hb dX12_aLaw_59 rfl (lv_at hl 1 rfl) ?_
          refine va_get (D := D) (ci := 12) (v := .ref Ma) (C := RX12) (T := TX12) (N := 36) hx hb hts iX12 hown hK hP 2 rfl rfl 0 (by decide) (hts _ qf_X12_7) (fun _ h => h) rfl dX12_aLaw_60 ?_
          refine lv_sipush (v := iZ 3562) hx hb dX12_aLaw_63 (by decide) ?_
          refine lv_iload_n hx hb dX12_aLaw_66 rfl (lv_at hl 0 rfl) ?_
          refine lv_bipush (v := iZ 12) hx hb dX12_aLaw_67 (by decide) ?_
          refine lv_icmp_ne (tgt := 76) hx hb dX12_aLaw_69 (by decide) (fun c_151 => ?_) (fun c_151 => ?_)
          ·
            have c_151 := mt (zeq (x := iZ (I_15 0)) (y := iZ 12) rfl rfl ⟨by omega, by omega⟩ ⟨by omega, by omega⟩).mpr c_151
            refine lv_iload_n hx hb dX12_aLaw_76 rfl (lv_at hl 0 rfl) ?_
            refine lv_bipush (v := iZ 13) hx hb dX12_aLaw_77 (by decide) ?_
            refine lv_icmp_ne (tgt := 86) hx hb dX12_aLaw_79 (by decide) (fun c_152 => ?_) (fun c_152 => ?_)
            ·
              have c_152 := mt (zeq (x := iZ (I_15 0)) (y := iZ 13) rfl rfl ⟨by omega, by omega⟩ ⟨by omega, by omega⟩).mpr c_152
              refine lv_iload_n hx hb dX12_aLaw_86 rfl (lv_at hl 0 rfl) ?_
              refine lv_bipush (v := iZ 6) hx hb dX12_aLaw_87 (by decide) ?_
              refine lv_icmp_ne (tgt := 96) hx hb dX12_aLaw_89 (by decide) (fun c_153 => ?_) (fun c_153 => ?_)
              ·
                have c_153 := mt (zeq (x := iZ (I_15 0)) (y := iZ 6) rfl rfl ⟨by omega, by omega⟩ ⟨by omega, by omega⟩).mpr c_153
                refine lv_iconst (v := iZ 3) hx hb dX12_aLaw_96 (by decide) ?_
                refine va_iast hx hb hK hP hD hS 0 1 rfl rfl (zin (e := 3562) (n := 5340) ⟨by omega, by omega⟩ (by decide)) dX12_aLaw_97 (fun H locs hP hD hS => ?_)
                obtain ⟨f_154, hf_154⟩ : ∃ gg9, gg9 = upd Af (iZ 3562).toNatClampNeg (iZ 3) := ⟨_, rfl⟩
                rw [← hf_154] at hP hD
                have kp_155 := KP.up hf_154 ⟨by omega, by omega⟩ ⟨by omega, by omega⟩
                have ns_156 := NSZ.far hNZ hf_154 (Or.inr rfl) ⟨by omega, by omega⟩
                have ms_157 := MSX.lw hms hf_154 (by omega) (by omega)
                refine lv_aload_n hx hb dX12_aLaw_98 rfl (lv_at hl 1 rfl) ?_
                refine CWV (As := []) (rest := []) (wc := [(hm, .inr (12, [.ref Ma, .ref Mn, .int (iZ Mst), .long Mtp, .long Mbt, .ref Ms, .ref My, .ref Mt, .ref Mp, .ref Mx, .int (iZ Mtd), .int (iZ Msz), .int (iZ (I_4 1)), .int (iZ (I_4 2)), .int (iZ (I_4 3)), .int (iZ (I_4 4)), .int (iZ Mfk), .int (iZ Mfp), .int (iZ Mfs), .int (iZ Mse), .int (iZ 1), .ref Mo, .int (iZ Mdp), .int (iZ Mct), .ref Mk, .ref Ml, .ref Mb, .ref Mh, .ref Mc, .int (iZ Mdr), .int (iZ Mrs), .ref Mz, .ref Mr, .ref Mq, .int (iZ Mit), .int (iZ Mmk)])), (Mx, .inl (k 0, 900, .inl Xf))]) (wr := [(Ma, .inl (k 1, 5340, .inl f_154)), (Mn, .inl (k 2, 36, .inr (.inl Nf)))]) hx hb hml hown hts hKK hP hD hS hA (y_onward l D k hm Ma Mn Ms My Mt Mp Mx Mo Mk Ml Mb Mh Mc Mz Mr Mq Mst Mtd Msz (I_4 1) (I_4 2) (I_4 3) (I_4 4) Mfk Mfp Mfs Mse 1 Mdp Mct Mdr Mrs Mit Mmk Mtp Mbt Xf ⟨⟨by omega, by omega⟩, by omega⟩) ci_X12_onward qm_X12_158 ⟨Nat.le_of_ble_eq_true rfl, Nat.le_of_ble_eq_true rfl⟩ ⟨Nat.le_of_ble_eq_true rfl, Nat.le_of_ble_eq_true rfl⟩ [2, 3] [0, 1] rfl rfl rfl rfl rfl (by decide) 0 rfl rfl rfl hl.1 rfl (Nat.le_of_ble_eq_true rfl) dX12_aLaw_99 (fun u_158 H locs hφ hP hD hS => ?_)
                obtain ⟨I_159, L_160, F_161, G_162⟩ := u_158
                obtain ⟨p_164, p_165, p_166⟩ : (RFX (tX Xf Msz) (I_4 3) (I_159 2) (I_159 3) (I_159 1) (I_159 4)) ∧ ((0 ≤ ((I_159 2) : Int) ∧ ((I_159 2) : Int) ≤ (I_159 3)) ∧ (((I_159 3) : Int) ≤ Msz ∧ (Msz : Int) ≤ 900) ∧ (0 ≤ ((I_159 1) : Int) ∧ ((I_159 1) : Int) ≤ 4) ∧ (((I_159 1) : Int) = 0 ∨ ((I_159 2) : Int) < (I_159 3)) ∧ (-1 ≤ ((I_159 4) : Int) ∧ ((I_159 4) : Int) ≤ 100000)) ∧ ((I_4 3) ≤ (I_159 2)) := hφ
                have rx_167 := RFX.nx rx_12 p_164
                obtain ⟨⟨ar_168, br_168⟩, cr_168, dr_168, er_168, gr_168, hr_168⟩ := id rx_167
                have kr_168 := tk_1 dr_168 (xKd_rg _ _)
                have wr_168 := xKw_rg (tX Xf Msz) (xEn (tX Xf Msz) (xEn (tX Xf Msz) cu))
                replace kr_168 : Unit → _ := fun _ => kr_168
                replace er_168 : Unit → _ := fun _ => er_168
                replace gr_168 : Unit → _ := fun _ => gr_168
                replace hr_168 : Unit → _ := fun _ => hr_168
                refine W.eq (g2 := F0 m 102 ls []) rfl ?_
                refine lv_iconst (v := iZ 1) hx hb dX12_aLaw_102 (by decide) ?_
                have hlo : xLo (xKw (tX Xf Msz) (xEn (tX Xf Msz) cu)) = 3 := by unfold xLo; rw [if_neg (by omega), if_neg (by omega), if_neg (by omega), if_pos (by omega)]
                obtain ⟨mm0, mm1, mm2, mm3, mmF, mmG⟩ := id ms_157
                exact EWz hx hb hr hlocks hS (fun i => [1, (I_159 1), (I_159 2), (I_159 3), (I_159 4), Mfs, Mfp, 1].getD i 0, fun i => [0].getD i 0, fun i => [f_154].getD i (fun _ => 0), fun i => [Nf].getD i (fun _ => 0)) rfl rfl ⟨(show (0 ≤ ((I_159 2) : Int) ∧ ((I_159 2) : Int) ≤ (I_159 3)) ∧ (((I_159 3) : Int) ≤ Msz ∧ (Msz : Int) ≤ 900) ∧ (0 ≤ ((I_159 1) : Int) ∧ ((I_159 1) : Int) ≤ 4) ∧ (((I_159 1) : Int) = 0 ∨ ((I_159 2) : Int) < (I_159 3)) ∧ (-1 ≤ ((I_159 4) : Int) ∧ ((I_159 4) : Int) ≤ 100000) from (by first | with_reducible assumption | exact ⟨⟨by omega, by omega⟩, ⟨by omega, by omega⟩, ⟨by omega, by omega⟩, by omega, by omega, by omega⟩)), (show 0 ≤ (Mfs : Int) ∧ (Mfs : Int) ≤ 9 from (by omega)), (show KP f_154 Af from kp_155), (show ((1 : Int) = 1 ∧ ∃ q9 : Int, xLaw (tX Xf Msz) Mlt cu = (xBn (xTs (tX Xf Msz) 59 q9) fun r9 => .inr (r9, gz f_154 3562)) ∧ cu < q9 ∧ RFX (tX Xf Msz) q9 (I_159 2) (I_159 3) (I_159 1) (I_159 4) ∧ MSX f_154 (gz f_154 3560) (gz f_154 3561) (gz f_154 3562) (gz f_154 3678) F G ∧ (gz f_154 3560 = gz Af 3560 ∧ gz f_154 3561 = gz Af 3561 ∧ gz f_154 3678 = gz Af 3678) ∧ NSZ f_154 ∧ (1 : Int) = 1 ∧ (Mfs : Int) = 0 ∧ Mfp = Mfp) ∨ ((1 : Int) = 0 ∧ xLaw (tX Xf Msz) Mlt cu = .inl (Mfs, Mfp) ∧ 1 ≤ (Mfs : Int)) from (Or.inl ⟨rfl, (xEn (tX Xf Msz) (xEn (tX Xf Msz) cu)), xLaw_2 (by omega) (hlo.trans mm2.symm) (by omega), by omega, rx_167, ⟨rfl, rfl, rfl, rfl, mmF, by rw [mm1]; exact mmG⟩, ⟨by omega, by omega, by omega⟩, ns_156, rfl, by omega, by omega⟩)), (show (1 : Int) = 0 ∨ (1 : Int) = 1 from (by omega)), (show Nf = Nf from rfl)⟩ (hP.sub [2, 3, 0, 1] rfl) (hD.sub [2, 3, 0, 1] rfl rfl) dX12_aLaw_103
              ·
                have c_153 := (zeq (x := iZ (I_15 0)) (y := iZ 6) rfl rfl ⟨by omega, by omega⟩ ⟨by omega, by omega⟩).mp c_153
                refine lv_iconst (v := iZ 2) hx hb dX12_aLaw_92 (by decide) ?_
                refine lv_goto (tgt := 97) hx hb dX12_aLaw_93 (by decide) ?_
                refine va_iast hx hb hK hP hD hS 0 1 rfl rfl (zin (e := 3562) (n := 5340) ⟨by omega, by omega⟩ (by decide)) dX12_aLaw_97 (fun H locs hP hD hS => ?_)
                obtain ⟨f_169, hf_169⟩ : ∃ gg9, gg9 = upd Af (iZ 3562).toNatClampNeg (iZ 2) := ⟨_, rfl⟩
                rw [← hf_169] at hP hD
                have kp_170 := KP.up hf_169 ⟨by omega, by omega⟩ ⟨by omega, by omega⟩
                have ns_171 := NSZ.far hNZ hf_169 (Or.inr rfl) ⟨by omega, by omega⟩
                have ms_172 := MSX.lw hms hf_169 (by omega) (by omega)
                refine lv_aload_n hx hb dX12_aLaw_98 rfl (lv_at hl 1 rfl) ?_
                refine CWV (As := []) (rest := []) (wc := [(hm, .inr (12, [.ref Ma, .ref Mn, .int (iZ Mst), .long Mtp, .long Mbt, .ref Ms, .ref My, .ref Mt, .ref Mp, .ref Mx, .int (iZ Mtd), .int (iZ Msz), .int (iZ (I_4 1)), .int (iZ (I_4 2)), .int (iZ (I_4 3)), .int (iZ (I_4 4)), .int (iZ Mfk), .int (iZ Mfp), .int (iZ Mfs), .int (iZ Mse), .int (iZ 1), .ref Mo, .int (iZ Mdp), .int (iZ Mct), .ref Mk, .ref Ml, .ref Mb, .ref Mh, .ref Mc, .int (iZ Mdr), .int (iZ Mrs), .ref Mz, .ref Mr, .ref Mq, .int (iZ Mit), .int (iZ Mmk)])), (Mx, .inl (k 0, 900, .inl Xf))]) (wr := [(Ma, .inl (k 1, 5340, .inl f_169)), (Mn, .inl (k 2, 36, .inr (.inl Nf)))]) hx hb hml hown hts hKK hP hD hS hA (y_onward l D k hm Ma Mn Ms My Mt Mp Mx Mo Mk Ml Mb Mh Mc Mz Mr Mq Mst Mtd Msz (I_4 1) (I_4 2) (I_4 3) (I_4 4) Mfk Mfp Mfs Mse 1 Mdp Mct Mdr Mrs Mit Mmk Mtp Mbt Xf ⟨⟨by omega, by omega⟩, by omega⟩) ci_X12_onward qm_X12_158 ⟨Nat.le_of_ble_eq_true rfl, Nat.le_of_ble_eq_true rfl⟩ ⟨Nat.le_of_ble_eq_true rfl, Nat.le_of_ble_eq_true rfl⟩ [2, 3] [0, 1] rfl rfl rfl rfl rfl (by decide) 0 rfl rfl rfl hl.1 rfl (Nat.le_of_ble_eq_true rfl) dX12_aLaw_99 (fun u_173 H locs hφ hP hD hS => ?_)
                obtain ⟨I_174, L_175, F_176, G_177⟩ := u_173
                obtain ⟨p_179, p_180, p_181⟩ : (RFX (tX Xf Msz) (I_4 3) (I_174 2) (I_174 3) (I_174 1) (I_174 4)) ∧ ((0 ≤ ((I_174 2) : Int) ∧ ((I_174 2) : Int) ≤ (I_174 3)) ∧ (((I_174 3) : Int) ≤ Msz ∧ (Msz : Int) ≤ 900) ∧ (0 ≤ ((I_174 1) : Int) ∧ ((I_174 1) : Int) ≤ 4) ∧ (((I_174 1) : Int) = 0 ∨ ((I_174 2) : Int) < (I_174 3)) ∧ (-1 ≤ ((I_174 4) : Int) ∧ ((I_174 4) : Int) ≤ 100000)) ∧ ((I_4 3) ≤ (I_174 2)) := hφ
                have rx_182 := RFX.nx rx_12 p_179
                obtain ⟨⟨ar_183, br_183⟩, cr_183, dr_183, er_183, gr_183, hr_183⟩ := id rx_182
                have kr_183 := tk_1 dr_183 (xKd_rg _ _)
                have wr_183 := xKw_rg (tX Xf Msz) (xEn (tX Xf Msz) (xEn (tX Xf Msz) cu))
                replace kr_183 : Unit → _ := fun _ => kr_183
                replace er_183 : Unit → _ := fun _ => er_183
                replace gr_183 : Unit → _ := fun _ => gr_183
                replace hr_183 : Unit → _ := fun _ => hr_183
                refine W.eq (g2 := F0 m 102 ls []) rfl ?_
                refine lv_iconst (v := iZ 1) hx hb dX12_aLaw_102 (by decide) ?_
                have hlo : xLo (xKw (tX Xf Msz) (xEn (tX Xf Msz) cu)) = 2 := by unfold xLo; rw [if_neg (by omega), if_neg (by omega), if_pos (by omega)]
                obtain ⟨mm0, mm1, mm2, mm3, mmF, mmG⟩ := id ms_172
                exact EWz hx hb hr hlocks hS (fun i => [1, (I_174 1), (I_174 2), (I_174 3), (I_174 4), Mfs, Mfp, 1].getD i 0, fun i => [0].getD i 0, fun i => [f_169].getD i (fun _ => 0), fun i => [Nf].getD i (fun _ => 0)) rfl rfl ⟨(show (0 ≤ ((I_174 2) : Int) ∧ ((I_174 2) : Int) ≤ (I_174 3)) ∧ (((I_174 3) : Int) ≤ Msz ∧ (Msz : Int) ≤ 900) ∧ (0 ≤ ((I_174 1) : Int) ∧ ((I_174 1) : Int) ≤ 4) ∧ (((I_174 1) : Int) = 0 ∨ ((I_174 2) : Int) < (I_174 3)) ∧ (-1 ≤ ((I_174 4) : Int) ∧ ((I_174 4) : Int) ≤ 100000) from (by first | with_reducible assumption | exact ⟨⟨by omega, by omega⟩, ⟨by omega, by omega⟩, ⟨by omega, by omega⟩, by omega, by omega, by omega⟩)), (show 0 ≤ (Mfs : Int) ∧ (Mfs : Int) ≤ 9 from (by omega)), (show KP f_169 Af from kp_170), (show ((1 : Int) = 1 ∧ ∃ q9 : Int, xLaw (tX Xf Msz) Mlt cu = (xBn (xTs (tX Xf Msz) 59 q9) fun r9 => .inr (r9, gz f_169 3562)) ∧ cu < q9 ∧ RFX (tX Xf Msz) q9 (I_174 2) (I_174 3) (I_174 1) (I_174 4) ∧ MSX f_169 (gz f_169 3560) (gz f_169 3561) (gz f_169 3562) (gz f_169 3678) F G ∧ (gz f_169 3560 = gz Af 3560 ∧ gz f_169 3561 = gz Af 3561 ∧ gz f_169 3678 = gz Af 3678) ∧ NSZ f_169 ∧ (1 : Int) = 1 ∧ (Mfs : Int) = 0 ∧ Mfp = Mfp) ∨ ((1 : Int) = 0 ∧ xLaw (tX Xf Msz) Mlt cu = .inl (Mfs, Mfp) ∧ 1 ≤ (Mfs : Int)) from (Or.inl ⟨rfl, (xEn (tX Xf Msz) (xEn (tX Xf Msz) cu)), xLaw_2 (by omega) (hlo.trans mm2.symm) (by omega), by omega, rx_182, ⟨rfl, rfl, rfl, rfl, mmF, by rw [mm1]; exact mmG⟩, ⟨by omega, by omega, by omega⟩, ns_171, rfl, by omega, by omega⟩)), (show (1 : Int) = 0 ∨ (1 : Int) = 1 from (by omega)), (show Nf = Nf from rfl)⟩ (hP.sub [2, 3, 0, 1] rfl) (hD.sub [2, 3, 0, 1] rfl rfl) dX12_aLaw_103
            ·
              have c_152 := (zeq (x := iZ (I_15 0)) (y := iZ 13) rfl rfl ⟨by omega, by omega⟩ ⟨by omega, by omega⟩).mp c_152
              refine lv_iconst (v := iZ 1) hx hb dX12_aLaw_82 (by decide) ?_
              refine lv_goto (tgt := 97) hx hb dX12_aLaw_83 (by decide) ?_
              refine va_iast hx hb hK hP hD hS 0 1 rfl rfl (zin (e := 3562) (n := 5340) ⟨by omega, by omega⟩ (by decide)) dX12_aLaw_97 (fun H locs hP hD hS => ?_)
              obtain ⟨f_184, hf_184⟩ : ∃ gg9, gg9 = upd Af (iZ 3562).toNatClampNeg (iZ 1) := ⟨_, rfl⟩
              rw [← hf_184] at hP hD
              have kp_185 := KP.up hf_184 ⟨by omega, by omega⟩ ⟨by omega, by omega⟩
              have ns_186 := NSZ.far hNZ hf_184 (Or.inr rfl) ⟨by omega, by omega⟩
              have ms_187 := MSX.lw hms hf_184 (by omega) (by omega)
              refine lv_aload_n hx hb dX12_aLaw_98 rfl (lv_at hl 1 rfl) ?_
              refine CWV (As := []) (rest := []) (wc := [(hm, .inr (12, [.ref Ma, .ref Mn, .int (iZ Mst), .long Mtp, .long Mbt, .ref Ms, .ref My, .ref Mt, .ref Mp, .ref Mx, .int (iZ Mtd), .int (iZ Msz), .int (iZ (I_4 1)), .int (iZ (I_4 2)), .int (iZ (I_4 3)), .int (iZ (I_4 4)), .int (iZ Mfk), .int (iZ Mfp), .int (iZ Mfs), .int (iZ Mse), .int (iZ 1), .ref Mo, .int (iZ Mdp), .int (iZ Mct), .ref Mk, .ref Ml, .ref Mb, .ref Mh, .ref Mc, .int (iZ Mdr), .int (iZ Mrs), .ref Mz, .ref Mr, .ref Mq, .int (iZ Mit), .int (iZ Mmk)])), (Mx, .inl (k 0, 900, .inl Xf))]) (wr := [(Ma, .inl (k 1, 5340, .inl f_184)), (Mn, .inl (k 2, 36, .inr (.inl Nf)))]) hx hb hml hown hts hKK hP hD hS hA (y_onward l D k hm Ma Mn Ms My Mt Mp Mx Mo Mk Ml Mb Mh Mc Mz Mr Mq Mst Mtd Msz (I_4 1) (I_4 2) (I_4 3) (I_4 4) Mfk Mfp Mfs Mse 1 Mdp Mct Mdr Mrs Mit Mmk Mtp Mbt Xf ⟨⟨by omega, by omega⟩, by omega⟩) ci_X12_onward qm_X12_158 ⟨Nat.le_of_ble_eq_true rfl, Nat.le_of_ble_eq_true rfl⟩ ⟨Nat.le_of_ble_eq_true rfl, Nat.le_of_ble_eq_true rfl⟩ [2, 3] [0, 1] rfl rfl rfl rfl rfl (by decide) 0 rfl rfl rfl hl.1 rfl (Nat.le_of_ble_eq_true rfl) dX12_aLaw_99 (fun u_188 H locs hφ hP hD hS => ?_)
              obtain ⟨I_189, L_190, F_191, G_192⟩ := u_188
              obtain ⟨p_194, p_195, p_196⟩ : (RFX (tX Xf Msz) (I_4 3) (I_189 2) (I_189 3) (I_189 1) (I_189 4)) ∧ ((0 ≤ ((I_189 2) : Int) ∧ ((I_189 2) : Int) ≤ (I_189 3)) ∧ (((I_189 3) : Int) ≤ Msz ∧ (Msz : Int) ≤ 900) ∧ (0 ≤ ((I_189 1) : Int) ∧ ((I_189 1) : Int) ≤ 4) ∧ (((I_189 1) : Int) = 0 ∨ ((I_189 2) : Int) < (I_189 3)) ∧ (-1 ≤ ((I_189 4) : Int) ∧ ((I_189 4) : Int) ≤ 100000)) ∧ ((I_4 3) ≤ (I_189 2)) := hφ
              have rx_197 := RFX.nx rx_12 p_194
              obtain ⟨⟨ar_198, br_198⟩, cr_198, dr_198, er_198, gr_198, hr_198⟩ := id rx_197
              have kr_198 := tk_1 dr_198 (xKd_rg _ _)
              have wr_198 := xKw_rg (tX Xf Msz) (xEn (tX Xf Msz) (xEn (tX Xf Msz) cu))
              replace kr_198 : Unit → _ := fun _ => kr_198
              replace er_198 : Unit → _ := fun _ => er_198
              replace gr_198 : Unit → _ := fun _ => gr_198
              replace hr_198 : Unit → _ := fun _ => hr_198
              refine W.eq (g2 := F0 m 102 ls []) rfl ?_
              refine lv_iconst (v := iZ 1) hx hb dX12_aLaw_102 (by decide) ?_
              have hlo : xLo (xKw (tX Xf Msz) (xEn (tX Xf Msz) cu)) = 1 := by unfold xLo; rw [if_neg (by omega), if_pos (by omega)]
              obtain ⟨mm0, mm1, mm2, mm3, mmF, mmG⟩ := id ms_187
              exact EWz hx hb hr hlocks hS (fun i => [1, (I_189 1), (I_189 2), (I_189 3), (I_189 4), Mfs, Mfp, 1].getD i 0, fun i => [0].getD i 0, fun i => [f_184].getD i (fun _ => 0), fun i => [Nf].getD i (fun _ => 0)) rfl rfl ⟨(show (0 ≤ ((I_189 2) : Int) ∧ ((I_189 2) : Int) ≤ (I_189 3)) ∧ (((I_189 3) : Int) ≤ Msz ∧ (Msz : Int) ≤ 900) ∧ (0 ≤ ((I_189 1) : Int) ∧ ((I_189 1) : Int) ≤ 4) ∧ (((I_189 1) : Int) = 0 ∨ ((I_189 2) : Int) < (I_189 3)) ∧ (-1 ≤ ((I_189 4) : Int) ∧ ((I_189 4) : Int) ≤ 100000) from (by first | with_reducible assumption | exact ⟨⟨by omega, by omega⟩, ⟨by omega, by omega⟩, ⟨by omega, by omega⟩, by omega, by omega, by omega⟩)), (show 0 ≤ (Mfs : Int) ∧ (Mfs : Int) ≤ 9 from (by omega)), (show KP f_184 Af from kp_185), (show ((1 : Int) = 1 ∧ ∃ q9 : Int, xLaw (tX Xf Msz) Mlt cu = (xBn (xTs (tX Xf Msz) 59 q9) fun r9 => .inr (r9, gz f_184 3562)) ∧ cu < q9 ∧ RFX (tX Xf Msz) q9 (I_189 2) (I_189 3) (I_189 1) (I_189 4) ∧ MSX f_184 (gz f_184 3560) (gz f_184 3561) (gz f_184 3562) (gz f_184 3678) F G ∧ (gz f_184 3560 = gz Af 3560 ∧ gz f_184 3561 = gz Af 3561 ∧ gz f_184 3678 = gz Af 3678) ∧ NSZ f_184 ∧ (1 : Int) = 1 ∧ (Mfs : Int) = 0 ∧ Mfp = Mfp) ∨ ((1 : Int) = 0 ∧ xLaw (tX Xf Msz) Mlt cu = .inl (Mfs, Mfp) ∧ 1 ≤ (Mfs : Int)) from (Or.inl ⟨rfl, (xEn (tX Xf Msz) (xEn (tX Xf Msz) cu)), xLaw_2 (by omega) (hlo.trans mm2.symm) (by omega), by omega, rx_197, ⟨rfl, rfl, rfl, rfl, mmF, by rw [mm1]; exact mmG⟩, ⟨by omega, by omega, by omega⟩, ns_186, rfl, by omega, by omega⟩)), (show (1 : Int) = 0 ∨ (1 : Int) = 1 from (by omega)), (show Nf = Nf from rfl)⟩ (hP.sub [2, 3, 0, 1] rfl) (hD.sub [2, 3, 0, 1] rfl rfl) dX12_aLaw_103
          ·
            have c_151 := (zeq (x := iZ (I_15 0)) (y := iZ 12) rfl rfl ⟨by omega, by omega⟩ ⟨by omega, by omega⟩).mp c_151
            refine lv_iconst (v := iZ 0) hx hb dX12_aLaw_72 (by decide) ?_
            refine lv_goto (tgt := 97) hx hb dX12_aLaw_73 (by decide) ?_
            refine va_iast hx hb hK hP hD hS 0 1 rfl rfl (zin (e := 3562) (n := 5340) ⟨by omega, by omega⟩ (by decide)) dX12_aLaw_97 (fun H locs hP hD hS => ?_)
            obtain ⟨f_199, hf_199⟩ : ∃ gg9, gg9 = upd Af (iZ 3562).toNatClampNeg (iZ 0) := ⟨_, rfl⟩
            rw [← hf_199] at hP hD
            have kp_200 := KP.up hf_199 ⟨by omega, by omega⟩ ⟨by omega, by omega⟩
            have ns_201 := NSZ.far hNZ hf_199 (Or.inr rfl) ⟨by omega, by omega⟩
            have ms_202 := MSX.lw hms hf_199 (by omega) (by omega)
            refine lv_aload_n hx hb dX12_aLaw_98 rfl (lv_at hl 1 rfl) ?_
            refine CWV (As := []) (rest := []) (wc := [(hm, .inr (12, [.ref Ma, .ref Mn, .int (iZ Mst), .long Mtp, .long Mbt, .ref Ms, .ref My, .ref Mt, .ref Mp, .ref Mx, .int (iZ Mtd), .int (iZ Msz), .int (iZ (I_4 1)), .int (iZ (I_4 2)), .int (iZ (I_4 3)), .int (iZ (I_4 4)), .int (iZ Mfk), .int (iZ Mfp), .int (iZ Mfs), .int (iZ Mse), .int (iZ 1), .ref Mo, .int (iZ Mdp), .int (iZ Mct), .ref Mk, .ref Ml, .ref Mb, .ref Mh, .ref Mc, .int (iZ Mdr), .int (iZ Mrs), .ref Mz, .ref Mr, .ref Mq, .int (iZ Mit), .int (iZ Mmk)])), (Mx, .inl (k 0, 900, .inl Xf))]) (wr := [(Ma, .inl (k 1, 5340, .inl f_199)), (Mn, .inl (k 2, 36, .inr (.inl Nf)))]) hx hb hml hown hts hKK hP hD hS hA (y_onward l D k hm Ma Mn Ms My Mt Mp Mx Mo Mk Ml Mb Mh Mc Mz Mr Mq Mst Mtd Msz (I_4 1) (I_4 2) (I_4 3) (I_4 4) Mfk Mfp Mfs Mse 1 Mdp Mct Mdr Mrs Mit Mmk Mtp Mbt Xf ⟨⟨by omega, by omega⟩, by omega⟩) ci_X12_onward qm_X12_158 ⟨Nat.le_of_ble_eq_true rfl, Nat.le_of_ble_eq_true rfl⟩ ⟨Nat.le_of_ble_eq_true rfl, Nat.le_of_ble_eq_true rfl⟩ [2, 3] [0, 1] rfl rfl rfl rfl rfl (by decide) 0 rfl rfl rfl hl.1 rfl (Nat.le_of_ble_eq_true rfl) dX12_aLaw_99 (fun u_203 H locs hφ hP hD hS => ?_)
            obtain ⟨I_204, L_205, F_206, G_207⟩ := u_203
            obtain ⟨p_209, p_210, p_211⟩ : (RFX (tX Xf Msz) (I_4 3) (I_204 2) (I_204 3) (I_204 1) (I_204 4)) ∧ ((0 ≤ ((I_204 2) : Int) ∧ ((I_204 2) : Int) ≤ (I_204 3)) ∧ (((I_204 3) : Int) ≤ Msz ∧ (Msz : Int) ≤ 900) ∧ (0 ≤ ((I_204 1) : Int) ∧ ((I_204 1) : Int) ≤ 4) ∧ (((I_204 1) : Int) = 0 ∨ ((I_204 2) : Int) < (I_204 3)) ∧ (-1 ≤ ((I_204 4) : Int) ∧ ((I_204 4) : Int) ≤ 100000)) ∧ ((I_4 3) ≤ (I_204 2)) := hφ
            have rx_212 := RFX.nx rx_12 p_209
            obtain ⟨⟨ar_213, br_213⟩, cr_213, dr_213, er_213, gr_213, hr_213⟩ := id rx_212
            have kr_213 := tk_1 dr_213 (xKd_rg _ _)
            have wr_213 := xKw_rg (tX Xf Msz) (xEn (tX Xf Msz) (xEn (tX Xf Msz) cu))
            replace kr_213 : Unit → _ := fun _ => kr_213
            replace er_213 : Unit → _ := fun _ => er_213
            replace gr_213 : Unit → _ := fun _ => gr_213
            replace hr_213 : Unit → _ := fun _ => hr_213
            refine W.eq (g2 := F0 m 102 ls []) rfl ?_
            refine lv_iconst (v := iZ 1) hx hb dX12_aLaw_102 (by decide) ?_
            have hlo : xLo (xKw (tX Xf Msz) (xEn (tX Xf Msz) cu)) = 0 := by unfold xLo; rw [if_pos (by omega)]
            obtain ⟨mm0, mm1, mm2, mm3, mmF, mmG⟩ := id ms_202
            exact EWz hx hb hr hlocks hS (fun i => [1, (I_204 1), (I_204 2), (I_204 3), (I_204 4), Mfs, Mfp, 1].getD i 0, fun i => [0].getD i 0, fun i => [f_199].getD i (fun _ => 0), fun i => [Nf].getD i (fun _ => 0)) rfl rfl ⟨(show (0 ≤ ((I_204 2) : Int) ∧ ((I_204 2) : Int) ≤ (I_204 3)) ∧ (((I_204 3) : Int) ≤ Msz ∧ (Msz : Int) ≤ 900) ∧ (0 ≤ ((I_204 1) : Int) ∧ ((I_204 1) : Int) ≤ 4) ∧ (((I_204 1) : Int) = 0 ∨ ((I_204 2) : Int) < (I_204 3)) ∧ (-1 ≤ ((I_204 4) : Int) ∧ ((I_204 4) : Int) ≤ 100000) from (by first | with_reducible assumption | exact ⟨⟨by omega, by omega⟩, ⟨by omega, by omega⟩, ⟨by omega, by omega⟩, by omega, by omega, by omega⟩)), (show 0 ≤ (Mfs : Int) ∧ (Mfs : Int) ≤ 9 from (by omega)), (show KP f_199 Af from kp_200), (show ((1 : Int) = 1 ∧ ∃ q9 : Int, xLaw (tX Xf Msz) Mlt cu = (xBn (xTs (tX Xf Msz) 59 q9) fun r9 => .inr (r9, gz f_199 3562)) ∧ cu < q9 ∧ RFX (tX Xf Msz) q9 (I_204 2) (I_204 3) (I_204 1) (I_204 4) ∧ MSX f_199 (gz f_199 3560) (gz f_199 3561) (gz f_199 3562) (gz f_199 3678) F G ∧ (gz f_199 3560 = gz Af 3560 ∧ gz f_199 3561 = gz Af 3561 ∧ gz f_199 3678 = gz Af 3678) ∧ NSZ f_199 ∧ (1 : Int) = 1 ∧ (Mfs : Int) = 0 ∧ Mfp = Mfp) ∨ ((1 : Int) = 0 ∧ xLaw (tX Xf Msz) Mlt cu = .inl (Mfs, Mfp) ∧ 1 ≤ (Mfs : Int)) from (Or.inl ⟨rfl, (xEn (tX Xf Msz) (xEn (tX Xf Msz) cu)), xLaw_2 (by omega) (hlo.trans mm2.symm) (by omega), by omega, rx_212, ⟨rfl, rfl, rfl, rfl, mmF, by rw [mm1]; exact mmG⟩, ⟨by omega, by omega, by omega⟩, ns_201, rfl, by omega, by omega⟩)), (show (1 : Int) = 0 ∨ (1 : Int) = 1 from (by omega)), (show Nf = Nf from rfl)⟩ (hP.sub [2, 3, 0, 1] rfl) (hD.sub [2, 3, 0, 1] rfl rfl) dX12_aLaw_103
        ·
          have c_150 := mt (zeq (x := iZ (I_15 0)) (y := iZ 6) rfl rfl ⟨by omega, by omega⟩ ⟨by omega, by omega⟩).mpr c_150
          refine lv_iload_n hx hb dX12_aLaw_47 rfl (lv_at hl 0 rfl) ?_
          refine lv_bipush (v := iZ 14) hx hb dX12_aLaw_48 (by decide) ?_
          refine lv_icmp_eq (tgt := 59) hx hb dX12_aLaw_50 (by decide) (fun c_214 => ?_) (fun c_214 => ?_)
          ·
            have c_214 := (zeq (x := iZ (I_15 0)) (y := iZ 14) rfl rfl ⟨by omega, by omega⟩ ⟨by omega, by omega⟩).mp c_214
            refine lv_aload_n hx hb dX12_aLaw_59 rfl (lv_at hl 1 rfl) ?_
            refine va_get (D := D) (ci := 12) (v := .ref Ma) (C := RX12) (T := TX12) (N := 36) hx hb hts iX12 hown hK hP 2 rfl rfl 0 (by decide) (hts _ qf_X12_7) (fun _ h => h) rfl dX12_aLaw_60 ?_
            refine lv_sipush (v := iZ 3562) hx hb dX12_aLaw_63 (by decide) ?_
            refine lv_iload_n hx hb dX12_aLaw_66 rfl (lv_at hl 0 rfl) ?_
            refine lv_bipush (v := iZ 12) hx hb dX12_aLaw_67 (by decide) ?_
            refine lv_icmp_ne (tgt := 76) hx hb dX12_aLaw_69 (by decide) (fun c_215 => ?_) (fun c_215 => ?_)
            ·
              have c_215 := mt (zeq (x := iZ (I_15 0)) (y := iZ 12) rfl rfl ⟨by omega, by omega⟩ ⟨by omega, by omega⟩).mpr c_215
              refine lv_iload_n hx hb dX12_aLaw_76 rfl (lv_at hl 0 rfl) ?_
              refine lv_bipush (v := iZ 13) hx hb dX12_aLaw_77 (by decide) ?_
              refine lv_icmp_ne (tgt := 86) hx hb dX12_aLaw_79 (by decide) (fun c_216 => ?_) (fun c_216 => ?_)
              ·
                have c_216 := mt (zeq (x := iZ (I_15 0)) (y := iZ 13) rfl rfl ⟨by omega, by omega⟩ ⟨by omega, by omega⟩).mpr c_216
                refine lv_iload_n hx hb dX12_aLaw_86 rfl (lv_at hl 0 rfl) ?_
                refine lv_bipush (v := iZ 6) hx hb dX12_aLaw_87 (by decide) ?_
                refine lv_icmp_ne (tgt := 96) hx hb dX12_aLaw_89 (by decide) (fun c_217 => ?_) (fun c_217 => ?_)
                ·
                  have c_217 := mt (zeq (x := iZ (I_15 0)) (y := iZ 6) rfl rfl ⟨by omega, by omega⟩ ⟨by omega, by omega⟩).mpr c_217
                  refine lv_iconst (v := iZ 3) hx hb dX12_aLaw_96 (by decide) ?_
                  refine va_iast hx hb hK hP hD hS 0 1 rfl rfl (zin (e := 3562) (n := 5340) ⟨by omega, by omega⟩ (by decide)) dX12_aLaw_97 (fun H locs hP hD hS => ?_)
                  obtain ⟨f_218, hf_218⟩ : ∃ gg9, gg9 = upd Af (iZ 3562).toNatClampNeg (iZ 3) := ⟨_, rfl⟩
                  rw [← hf_218] at hP hD
                  have kp_219 := KP.up hf_218 ⟨by omega, by omega⟩ ⟨by omega, by omega⟩
                  have ns_220 := NSZ.far hNZ hf_218 (Or.inr rfl) ⟨by omega, by omega⟩
                  have ms_221 := MSX.lw hms hf_218 (by omega) (by omega)
                  refine lv_aload_n hx hb dX12_aLaw_98 rfl (lv_at hl 1 rfl) ?_
                  refine CWV (As := []) (rest := []) (wc := [(hm, .inr (12, [.ref Ma, .ref Mn, .int (iZ Mst), .long Mtp, .long Mbt, .ref Ms, .ref My, .ref Mt, .ref Mp, .ref Mx, .int (iZ Mtd), .int (iZ Msz), .int (iZ (I_4 1)), .int (iZ (I_4 2)), .int (iZ (I_4 3)), .int (iZ (I_4 4)), .int (iZ Mfk), .int (iZ Mfp), .int (iZ Mfs), .int (iZ Mse), .int (iZ 1), .ref Mo, .int (iZ Mdp), .int (iZ Mct), .ref Mk, .ref Ml, .ref Mb, .ref Mh, .ref Mc, .int (iZ Mdr), .int (iZ Mrs), .ref Mz, .ref Mr, .ref Mq, .int (iZ Mit), .int (iZ Mmk)])), (Mx, .inl (k 0, 900, .inl Xf))]) (wr := [(Ma, .inl (k 1, 5340, .inl f_218)), (Mn, .inl (k 2, 36, .inr (.inl Nf)))]) hx hb hml hown hts hKK hP hD hS hA (y_onward l D k hm Ma Mn Ms My Mt Mp Mx Mo Mk Ml Mb Mh Mc Mz Mr Mq Mst Mtd Msz (I_4 1) (I_4 2) (I_4 3) (I_4 4) Mfk Mfp Mfs Mse 1 Mdp Mct Mdr Mrs Mit Mmk Mtp Mbt Xf ⟨⟨by omega, by omega⟩, by omega⟩) ci_X12_onward qm_X12_158 ⟨Nat.le_of_ble_eq_true rfl, Nat.le_of_ble_eq_true rfl⟩ ⟨Nat.le_of_ble_eq_true rfl, Nat.le_of_ble_eq_true rfl⟩ [2, 3] [0, 1] rfl rfl rfl rfl rfl (by decide) 0 rfl rfl rfl hl.1 rfl (Nat.le_of_ble_eq_true rfl) dX12_aLaw_99 (fun u_222 H locs hφ hP hD hS => ?_)
                  obtain ⟨I_223, L_224, F_225, G_226⟩ := u_222
                  obtain ⟨p_228, p_229, p_230⟩ : (RFX (tX Xf Msz) (I_4 3) (I_223 2) (I_223 3) (I_223 1) (I_223 4)) ∧ ((0 ≤ ((I_223 2) : Int) ∧ ((I_223 2) : Int) ≤ (I_223 3)) ∧ (((I_223 3) : Int) ≤ Msz ∧ (Msz : Int) ≤ 900) ∧ (0 ≤ ((I_223 1) : Int) ∧ ((I_223 1) : Int) ≤ 4) ∧ (((I_223 1) : Int) = 0 ∨ ((I_223 2) : Int) < (I_223 3)) ∧ (-1 ≤ ((I_223 4) : Int) ∧ ((I_223 4) : Int) ≤ 100000)) ∧ ((I_4 3) ≤ (I_223 2)) := hφ
                  have rx_231 := RFX.nx rx_12 p_228
                  obtain ⟨⟨ar_232, br_232⟩, cr_232, dr_232, er_232, gr_232, hr_232⟩ := id rx_231
                  have kr_232 := tk_1 dr_232 (xKd_rg _ _)
                  have wr_232 := xKw_rg (tX Xf Msz) (xEn (tX Xf Msz) (xEn (tX Xf Msz) cu))
                  replace kr_232 : Unit → _ := fun _ => kr_232
                  replace er_232 : Unit → _ := fun _ => er_232
                  replace gr_232 : Unit → _ := fun _ => gr_232
                  replace hr_232 : Unit → _ := fun _ => hr_232
                  refine W.eq (g2 := F0 m 102 ls []) rfl ?_
                  refine lv_iconst (v := iZ 1) hx hb dX12_aLaw_102 (by decide) ?_
                  have hlo : xLo (xKw (tX Xf Msz) (xEn (tX Xf Msz) cu)) = 3 := by unfold xLo; rw [if_neg (by omega), if_neg (by omega), if_neg (by omega), if_pos (by omega)]
                  obtain ⟨mm0, mm1, mm2, mm3, mmF, mmG⟩ := id ms_221
                  exact EWz hx hb hr hlocks hS (fun i => [1, (I_223 1), (I_223 2), (I_223 3), (I_223 4), Mfs, Mfp, 1].getD i 0, fun i => [0].getD i 0, fun i => [f_218].getD i (fun _ => 0), fun i => [Nf].getD i (fun _ => 0)) rfl rfl ⟨(show (0 ≤ ((I_223 2) : Int) ∧ ((I_223 2) : Int) ≤ (I_223 3)) ∧ (((I_223 3) : Int) ≤ Msz ∧ (Msz : Int) ≤ 900) ∧ (0 ≤ ((I_223 1) : Int) ∧ ((I_223 1) : Int) ≤ 4) ∧ (((I_223 1) : Int) = 0 ∨ ((I_223 2) : Int) < (I_223 3)) ∧ (-1 ≤ ((I_223 4) : Int) ∧ ((I_223 4) : Int) ≤ 100000) from (by first | with_reducible assumption | exact ⟨⟨by omega, by omega⟩, ⟨by omega, by omega⟩, ⟨by omega, by omega⟩, by omega, by omega, by omega⟩)), (show 0 ≤ (Mfs : Int) ∧ (Mfs : Int) ≤ 9 from (by omega)), (show KP f_218 Af from kp_219), (show ((1 : Int) = 1 ∧ ∃ q9 : Int, xLaw (tX Xf Msz) Mlt cu = (xBn (xTs (tX Xf Msz) 59 q9) fun r9 => .inr (r9, gz f_218 3562)) ∧ cu < q9 ∧ RFX (tX Xf Msz) q9 (I_223 2) (I_223 3) (I_223 1) (I_223 4) ∧ MSX f_218 (gz f_218 3560) (gz f_218 3561) (gz f_218 3562) (gz f_218 3678) F G ∧ (gz f_218 3560 = gz Af 3560 ∧ gz f_218 3561 = gz Af 3561 ∧ gz f_218 3678 = gz Af 3678) ∧ NSZ f_218 ∧ (1 : Int) = 1 ∧ (Mfs : Int) = 0 ∧ Mfp = Mfp) ∨ ((1 : Int) = 0 ∧ xLaw (tX Xf Msz) Mlt cu = .inl (Mfs, Mfp) ∧ 1 ≤ (Mfs : Int)) from (Or.inl ⟨rfl, (xEn (tX Xf Msz) (xEn (tX Xf Msz) cu)), xLaw_2 (by omega) (hlo.trans mm2.symm) (by omega), by omega, rx_231, ⟨rfl, rfl, rfl, rfl, mmF, by rw [mm1]; exact mmG⟩, ⟨by omega, by omega, by omega⟩, ns_220, rfl, by omega, by omega⟩)), (show (1 : Int) = 0 ∨ (1 : Int) = 1 from (by omega)), (show Nf = Nf from rfl)⟩ (hP.sub [2, 3, 0, 1] rfl) (hD.sub [2, 3, 0, 1] rfl rfl) dX12_aLaw_103
                ·
                  have c_217 := (zeq (x := iZ (I_15 0)) (y := iZ 6) rfl rfl ⟨by omega, by omega⟩ ⟨by omega, by omega⟩).mp c_217
                  refine lv_iconst (v := iZ 2) hx hb dX12_aLaw_92 (by decide) ?_
                  refine lv_goto (tgt := 97) hx hb dX12_aLaw_93 (by decide) ?_
                  refine va_iast hx hb hK hP hD hS 0 1 rfl rfl (zin (e := 3562) (n := 5340) ⟨by omega, by omega⟩ (by decide)) dX12_aLaw_97 (fun H locs hP hD hS => ?_)
                  obtain ⟨f_233, hf_233⟩ : ∃ gg9, gg9 = upd Af (iZ 3562).toNatClampNeg (iZ 2) := ⟨_, rfl⟩
                  rw [← hf_233] at hP hD
                  have kp_234 := KP.up hf_233 ⟨by omega, by omega⟩ ⟨by omega, by omega⟩
                  have ns_235 := NSZ.far hNZ hf_233 (Or.inr rfl) ⟨by omega, by omega⟩
                  have ms_236 := MSX.lw hms hf_233 (by omega) (by omega)
                  refine lv_aload_n hx hb dX12_aLaw_98 rfl (lv_at hl 1 rfl) ?_
                  refine CWV (As := []) (rest := []) (wc := [(hm, .inr (12, [.ref Ma, .ref Mn, .int (iZ Mst), .long Mtp, .long Mbt, .ref Ms, .ref My, .ref Mt, .ref Mp, .ref Mx, .int (iZ Mtd), .int (iZ Msz), .int (iZ (I_4 1)), .int (iZ (I_4 2)), .int (iZ (I_4 3)), .int (iZ (I_4 4)), .int (iZ Mfk), .int (iZ Mfp), .int (iZ Mfs), .int (iZ Mse), .int (iZ 1), .ref Mo, .int (iZ Mdp), .int (iZ Mct), .ref Mk, .ref Ml, .ref Mb, .ref Mh, .ref Mc, .int (iZ Mdr), .int (iZ Mrs), .ref Mz, .ref Mr, .ref Mq, .int (iZ Mit), .int (iZ Mmk)])), (Mx, .inl (k 0, 900, .inl Xf))]) (wr := [(Ma, .inl (k 1, 5340, .inl f_233)), (Mn, .inl (k 2, 36, .inr (.inl Nf)))]) hx hb hml hown hts hKK hP hD hS hA (y_onward l D k hm Ma Mn Ms My Mt Mp Mx Mo Mk Ml Mb Mh Mc Mz Mr Mq Mst Mtd Msz (I_4 1) (I_4 2) (I_4 3) (I_4 4) Mfk Mfp Mfs Mse 1 Mdp Mct Mdr Mrs Mit Mmk Mtp Mbt Xf ⟨⟨by omega, by omega⟩, by omega⟩) ci_X12_onward qm_X12_158 ⟨Nat.le_of_ble_eq_true rfl, Nat.le_of_ble_eq_true rfl⟩ ⟨Nat.le_of_ble_eq_true rfl, Nat.le_of_ble_eq_true rfl⟩ [2, 3] [0, 1] rfl rfl rfl rfl rfl (by decide) 0 rfl rfl rfl hl.1 rfl (Nat.le_of_ble_eq_true rfl) dX12_aLaw_99 (fun u_237 H locs hφ hP hD hS => ?_)
                  obtain ⟨I_238, L_239, F_240, G_241⟩ := u_237
                  obtain ⟨p_243, p_244, p_245⟩ : (RFX (tX Xf Msz) (I_4 3) (I_238 2) (I_238 3) (I_238 1) (I_238 4)) ∧ ((0 ≤ ((I_238 2) : Int) ∧ ((I_238 2) : Int) ≤ (I_238 3)) ∧ (((I_238 3) : Int) ≤ Msz ∧ (Msz : Int) ≤ 900) ∧ (0 ≤ ((I_238 1) : Int) ∧ ((I_238 1) : Int) ≤ 4) ∧ (((I_238 1) : Int) = 0 ∨ ((I_238 2) : Int) < (I_238 3)) ∧ (-1 ≤ ((I_238 4) : Int) ∧ ((I_238 4) : Int) ≤ 100000)) ∧ ((I_4 3) ≤ (I_238 2)) := hφ
                  have rx_246 := RFX.nx rx_12 p_243
                  obtain ⟨⟨ar_247, br_247⟩, cr_247, dr_247, er_247, gr_247, hr_247⟩ := id rx_246
                  have kr_247 := tk_1 dr_247 (xKd_rg _ _)
                  have wr_247 := xKw_rg (tX Xf Msz) (xEn (tX Xf Msz) (xEn (tX Xf Msz) cu))
                  replace kr_247 : Unit → _ := fun _ => kr_247
                  replace er_247 : Unit → _ := fun _ => er_247
                  replace gr_247 : Unit → _ := fun _ => gr_247
                  replace hr_247 : Unit → _ := fun _ => hr_247
                  refine W.eq (g2 := F0 m 102 ls []) rfl ?_
                  refine lv_iconst (v := iZ 1) hx hb dX12_aLaw_102 (by decide) ?_
                  have hlo : xLo (xKw (tX Xf Msz) (xEn (tX Xf Msz) cu)) = 2 := by unfold xLo; rw [if_neg (by omega), if_neg (by omega), if_pos (by omega)]
                  obtain ⟨mm0, mm1, mm2, mm3, mmF, mmG⟩ := id ms_236
                  exact EWz hx hb hr hlocks hS (fun i => [1, (I_238 1), (I_238 2), (I_238 3), (I_238 4), Mfs, Mfp, 1].getD i 0, fun i => [0].getD i 0, fun i => [f_233].getD i (fun _ => 0), fun i => [Nf].getD i (fun _ => 0)) rfl rfl ⟨(show (0 ≤ ((I_238 2) : Int) ∧ ((I_238 2) : Int) ≤ (I_238 3)) ∧ (((I_238 3) : Int) ≤ Msz ∧ (Msz : Int) ≤ 900) ∧ (0 ≤ ((I_238 1) : Int) ∧ ((I_238 1) : Int) ≤ 4) ∧ (((I_238 1) : Int) = 0 ∨ ((I_238 2) : Int) < (I_238 3)) ∧ (-1 ≤ ((I_238 4) : Int) ∧ ((I_238 4) : Int) ≤ 100000) from (by first | with_reducible assumption | exact ⟨⟨by omega, by omega⟩, ⟨by omega, by omega⟩, ⟨by omega, by omega⟩, by omega, by omega, by omega⟩)), (show 0 ≤ (Mfs : Int) ∧ (Mfs : Int) ≤ 9 from (by omega)), (show KP f_233 Af from kp_234), (show ((1 : Int) = 1 ∧ ∃ q9 : Int, xLaw (tX Xf Msz) Mlt cu = (xBn (xTs (tX Xf Msz) 59 q9) fun r9 => .inr (r9, gz f_233 3562)) ∧ cu < q9 ∧ RFX (tX Xf Msz) q9 (I_238 2) (I_238 3) (I_238 1) (I_238 4) ∧ MSX f_233 (gz f_233 3560) (gz f_233 3561) (gz f_233 3562) (gz f_233 3678) F G ∧ (gz f_233 3560 = gz Af 3560 ∧ gz f_233 3561 = gz Af 3561 ∧ gz f_233 3678 = gz Af 3678) ∧ NSZ f_233 ∧ (1 : Int) = 1 ∧ (Mfs : Int) = 0 ∧ Mfp = Mfp) ∨ ((1 : Int) = 0 ∧ xLaw (tX Xf Msz) Mlt cu = .inl (Mfs, Mfp) ∧ 1 ≤ (Mfs : Int)) from (Or.inl ⟨rfl, (xEn (tX Xf Msz) (xEn (tX Xf Msz) cu)), xLaw_2 (by omega) (hlo.trans mm2.symm) (by omega), by omega, rx_246, ⟨rfl, rfl, rfl, rfl, mmF, by rw [mm1]; exact mmG⟩, ⟨by omega, by omega, by omega⟩, ns_235, rfl, by omega, by omega⟩)), (show (1 : Int) = 0 ∨ (1 : Int) = 1 from (by omega)), (show Nf = Nf from rfl)⟩ (hP.sub [2, 3, 0, 1] rfl) (hD.sub [2, 3, 0, 1] rfl rfl) dX12_aLaw_103
              ·
                have c_216 := (zeq (x := iZ (I_15 0)) (y := iZ 13) rfl rfl ⟨by omega, by omega⟩ ⟨by omega, by omega⟩).mp c_216
                refine lv_iconst (v := iZ 1) hx hb dX12_aLaw_82 (by decide) ?_
                refine lv_goto (tgt := 97) hx hb dX12_aLaw_83 (by decide) ?_
                refine va_iast hx hb hK hP hD hS 0 1 rfl rfl (zin (e := 3562) (n := 5340) ⟨by omega, by omega⟩ (by decide)) dX12_aLaw_97 (fun H locs hP hD hS => ?_)
                obtain ⟨f_248, hf_248⟩ : ∃ gg9, gg9 = upd Af (iZ 3562).toNatClampNeg (iZ 1) := ⟨_, rfl⟩
                rw [← hf_248] at hP hD
                have kp_249 := KP.up hf_248 ⟨by omega, by omega⟩ ⟨by omega, by omega⟩
                have ns_250 := NSZ.far hNZ hf_248 (Or.inr rfl) ⟨by omega, by omega⟩
                have ms_251 := MSX.lw hms hf_248 (by omega) (by omega)
                refine lv_aload_n hx hb dX12_aLaw_98 rfl (lv_at hl 1 rfl) ?_
                refine CWV (As := []) (rest := []) (wc := [(hm, .inr (12, [.ref Ma, .ref Mn, .int (iZ Mst), .long Mtp, .long Mbt, .ref Ms, .ref My, .ref Mt, .ref Mp, .ref Mx, .int (iZ Mtd), .int (iZ Msz), .int (iZ (I_4 1)), .int (iZ (I_4 2)), .int (iZ (I_4 3)), .int (iZ (I_4 4)), .int (iZ Mfk), .int (iZ Mfp), .int (iZ Mfs), .int (iZ Mse), .int (iZ 1), .ref Mo, .int (iZ Mdp), .int (iZ Mct), .ref Mk, .ref Ml, .ref Mb, .ref Mh, .ref Mc, .int (iZ Mdr), .int (iZ Mrs), .ref Mz, .ref Mr, .ref Mq, .int (iZ Mit), .int (iZ Mmk)])), (Mx, .inl (k 0, 900, .inl Xf))]) (wr := [(Ma, .inl (k 1, 5340, .inl f_248)), (Mn, .inl (k 2, 36, .inr (.inl Nf)))]) hx hb hml hown hts hKK hP hD hS hA (y_onward l D k hm Ma Mn Ms My Mt Mp Mx Mo Mk Ml Mb Mh Mc Mz Mr Mq Mst Mtd Msz (I_4 1) (I_4 2) (I_4 3) (I_4 4) Mfk Mfp Mfs Mse 1 Mdp Mct Mdr Mrs Mit Mmk Mtp Mbt Xf ⟨⟨by omega, by omega⟩, by omega⟩) ci_X12_onward qm_X12_158 ⟨Nat.le_of_ble_eq_true rfl, Nat.le_of_ble_eq_true rfl⟩ ⟨Nat.le_of_ble_eq_true rfl, Nat.le_of_ble_eq_true rfl⟩ [2, 3] [0, 1] rfl rfl rfl rfl rfl (by decide) 0 rfl rfl rfl hl.1 rfl (Nat.le_of_ble_eq_true rfl) dX12_aLaw_99 (fun u_252 H locs hφ hP hD hS => ?_)
                obtain ⟨I_253, L_254, F_255, G_256⟩ := u_252
                obtain ⟨p_258, p_259, p_260⟩ : (RFX (tX Xf Msz) (I_4 3) (I_253 2) (I_253 3) (I_253 1) (I_253 4)) ∧ ((0 ≤ ((I_253 2) : Int) ∧ ((I_253 2) : Int) ≤ (I_253 3)) ∧ (((I_253 3) : Int) ≤ Msz ∧ (Msz : Int) ≤ 900) ∧ (0 ≤ ((I_253 1) : Int) ∧ ((I_253 1) : Int) ≤ 4) ∧ (((I_253 1) : Int) = 0 ∨ ((I_253 2) : Int) < (I_253 3)) ∧ (-1 ≤ ((I_253 4) : Int) ∧ ((I_253 4) : Int) ≤ 100000)) ∧ ((I_4 3) ≤ (I_253 2)) := hφ
                have rx_261 := RFX.nx rx_12 p_258
                obtain ⟨⟨ar_262, br_262⟩, cr_262, dr_262, er_262, gr_262, hr_262⟩ := id rx_261
                have kr_262 := tk_1 dr_262 (xKd_rg _ _)
                have wr_262 := xKw_rg (tX Xf Msz) (xEn (tX Xf Msz) (xEn (tX Xf Msz) cu))
                replace kr_262 : Unit → _ := fun _ => kr_262
                replace er_262 : Unit → _ := fun _ => er_262
                replace gr_262 : Unit → _ := fun _ => gr_262
                replace hr_262 : Unit → _ := fun _ => hr_262
                refine W.eq (g2 := F0 m 102 ls []) rfl ?_
                refine lv_iconst (v := iZ 1) hx hb dX12_aLaw_102 (by decide) ?_
                have hlo : xLo (xKw (tX Xf Msz) (xEn (tX Xf Msz) cu)) = 1 := by unfold xLo; rw [if_neg (by omega), if_pos (by omega)]
                obtain ⟨mm0, mm1, mm2, mm3, mmF, mmG⟩ := id ms_251
                exact EWz hx hb hr hlocks hS (fun i => [1, (I_253 1), (I_253 2), (I_253 3), (I_253 4), Mfs, Mfp, 1].getD i 0, fun i => [0].getD i 0, fun i => [f_248].getD i (fun _ => 0), fun i => [Nf].getD i (fun _ => 0)) rfl rfl ⟨(show (0 ≤ ((I_253 2) : Int) ∧ ((I_253 2) : Int) ≤ (I_253 3)) ∧ (((I_253 3) : Int) ≤ Msz ∧ (Msz : Int) ≤ 900) ∧ (0 ≤ ((I_253 1) : Int) ∧ ((I_253 1) : Int) ≤ 4) ∧ (((I_253 1) : Int) = 0 ∨ ((I_253 2) : Int) < (I_253 3)) ∧ (-1 ≤ ((I_253 4) : Int) ∧ ((I_253 4) : Int) ≤ 100000) from (by first | with_reducible assumption | exact ⟨⟨by omega, by omega⟩, ⟨by omega, by omega⟩, ⟨by omega, by omega⟩, by omega, by omega, by omega⟩)), (show 0 ≤ (Mfs : Int) ∧ (Mfs : Int) ≤ 9 from (by omega)), (show KP f_248 Af from kp_249), (show ((1 : Int) = 1 ∧ ∃ q9 : Int, xLaw (tX Xf Msz) Mlt cu = (xBn (xTs (tX Xf Msz) 59 q9) fun r9 => .inr (r9, gz f_248 3562)) ∧ cu < q9 ∧ RFX (tX Xf Msz) q9 (I_253 2) (I_253 3) (I_253 1) (I_253 4) ∧ MSX f_248 (gz f_248 3560) (gz f_248 3561) (gz f_248 3562) (gz f_248 3678) F G ∧ (gz f_248 3560 = gz Af 3560 ∧ gz f_248 3561 = gz Af 3561 ∧ gz f_248 3678 = gz Af 3678) ∧ NSZ f_248 ∧ (1 : Int) = 1 ∧ (Mfs : Int) = 0 ∧ Mfp = Mfp) ∨ ((1 : Int) = 0 ∧ xLaw (tX Xf Msz) Mlt cu = .inl (Mfs, Mfp) ∧ 1 ≤ (Mfs : Int)) from (Or.inl ⟨rfl, (xEn (tX Xf Msz) (xEn (tX Xf Msz) cu)), xLaw_2 (by omega) (hlo.trans mm2.symm) (by omega), by omega, rx_261, ⟨rfl, rfl, rfl, rfl, mmF, by rw [mm1]; exact mmG⟩, ⟨by omega, by omega, by omega⟩, ns_250, rfl, by omega, by omega⟩)), (show (1 : Int) = 0 ∨ (1 : Int) = 1 from (by omega)), (show Nf = Nf from rfl)⟩ (hP.sub [2, 3, 0, 1] rfl) (hD.sub [2, 3, 0, 1] rfl rfl) dX12_aLaw_103
            ·
              have c_215 := (zeq (x := iZ (I_15 0)) (y := iZ 12) rfl rfl ⟨by omega, by omega⟩ ⟨by omega, by omega⟩).mp c_215
              refine lv_iconst (v := iZ 0) hx hb dX12_aLaw_72 (by decide) ?_
              refine lv_goto (tgt := 97) hx hb dX12_aLaw_73 (by decide) ?_
              refine va_iast hx hb hK hP hD hS 0 1 rfl rfl (zin (e := 3562) (n := 5340) ⟨by omega, by omega⟩ (by decide)) dX12_aLaw_97 (fun H locs hP hD hS => ?_)
              obtain ⟨f_263, hf_263⟩ : ∃ gg9, gg9 = upd Af (iZ 3562).toNatClampNeg (iZ 0) := ⟨_, rfl⟩
              rw [← hf_263] at hP hD
              have kp_264 := KP.up hf_263 ⟨by omega, by omega⟩ ⟨by omega, by omega⟩
              have ns_265 := NSZ.far hNZ hf_263 (Or.inr rfl) ⟨by omega, by omega⟩
              have ms_266 := MSX.lw hms hf_263 (by omega) (by omega)
              refine lv_aload_n hx hb dX12_aLaw_98 rfl (lv_at hl 1 rfl) ?_
              refine CWV (As := []) (rest := []) (wc := [(hm, .inr (12, [.ref Ma, .ref Mn, .int (iZ Mst), .long Mtp, .long Mbt, .ref Ms, .ref My, .ref Mt, .ref Mp, .ref Mx, .int (iZ Mtd), .int (iZ Msz), .int (iZ (I_4 1)), .int (iZ (I_4 2)), .int (iZ (I_4 3)), .int (iZ (I_4 4)), .int (iZ Mfk), .int (iZ Mfp), .int (iZ Mfs), .int (iZ Mse), .int (iZ 1), .ref Mo, .int (iZ Mdp), .int (iZ Mct), .ref Mk, .ref Ml, .ref Mb, .ref Mh, .ref Mc, .int (iZ Mdr), .int (iZ Mrs), .ref Mz, .ref Mr, .ref Mq, .int (iZ Mit), .int (iZ Mmk)])), (Mx, .inl (k 0, 900, .inl Xf))]) (wr := [(Ma, .inl (k 1, 5340, .inl f_263)), (Mn, .inl (k 2, 36, .inr (.inl Nf)))]) hx hb hml hown hts hKK hP hD hS hA (y_onward l D k hm Ma Mn Ms My Mt Mp Mx Mo Mk Ml Mb Mh Mc Mz Mr Mq Mst Mtd Msz (I_4 1) (I_4 2) (I_4 3) (I_4 4) Mfk Mfp Mfs Mse 1 Mdp Mct Mdr Mrs Mit Mmk Mtp Mbt Xf ⟨⟨by omega, by omega⟩, by omega⟩) ci_X12_onward qm_X12_158 ⟨Nat.le_of_ble_eq_true rfl, Nat.le_of_ble_eq_true rfl⟩ ⟨Nat.le_of_ble_eq_true rfl, Nat.le_of_ble_eq_true rfl⟩ [2, 3] [0, 1] rfl rfl rfl rfl rfl (by decide) 0 rfl rfl rfl hl.1 rfl (Nat.le_of_ble_eq_true rfl) dX12_aLaw_99 (fun u_267 H locs hφ hP hD hS => ?_)
              obtain ⟨I_268, L_269, F_270, G_271⟩ := u_267
              obtain ⟨p_273, p_274, p_275⟩ : (RFX (tX Xf Msz) (I_4 3) (I_268 2) (I_268 3) (I_268 1) (I_268 4)) ∧ ((0 ≤ ((I_268 2) : Int) ∧ ((I_268 2) : Int) ≤ (I_268 3)) ∧ (((I_268 3) : Int) ≤ Msz ∧ (Msz : Int) ≤ 900) ∧ (0 ≤ ((I_268 1) : Int) ∧ ((I_268 1) : Int) ≤ 4) ∧ (((I_268 1) : Int) = 0 ∨ ((I_268 2) : Int) < (I_268 3)) ∧ (-1 ≤ ((I_268 4) : Int) ∧ ((I_268 4) : Int) ≤ 100000)) ∧ ((I_4 3) ≤ (I_268 2)) := hφ
              have rx_276 := RFX.nx rx_12 p_273
              obtain ⟨⟨ar_277, br_277⟩, cr_277, dr_277, er_277, gr_277, hr_277⟩ := id rx_276
              have kr_277 := tk_1 dr_277 (xKd_rg _ _)
              have wr_277 := xKw_rg (tX Xf Msz) (xEn (tX Xf Msz) (xEn (tX Xf Msz) cu))
              replace kr_277 : Unit → _ := fun _ => kr_277
              replace er_277 : Unit → _ := fun _ => er_277
              replace gr_277 : Unit → _ := fun _ => gr_277
              replace hr_277 : Unit → _ := fun _ => hr_277
              refine W.eq (g2 := F0 m 102 ls []) rfl ?_
              refine lv_iconst (v := iZ 1) hx hb dX12_aLaw_102 (by decide) ?_
              have hlo : xLo (xKw (tX Xf Msz) (xEn (tX Xf Msz) cu)) = 0 := by unfold xLo; rw [if_pos (by omega)]
              obtain ⟨mm0, mm1, mm2, mm3, mmF, mmG⟩ := id ms_266
              exact EWz hx hb hr hlocks hS (fun i => [1, (I_268 1), (I_268 2), (I_268 3), (I_268 4), Mfs, Mfp, 1].getD i 0, fun i => [0].getD i 0, fun i => [f_263].getD i (fun _ => 0), fun i => [Nf].getD i (fun _ => 0)) rfl rfl ⟨(show (0 ≤ ((I_268 2) : Int) ∧ ((I_268 2) : Int) ≤ (I_268 3)) ∧ (((I_268 3) : Int) ≤ Msz ∧ (Msz : Int) ≤ 900) ∧ (0 ≤ ((I_268 1) : Int) ∧ ((I_268 1) : Int) ≤ 4) ∧ (((I_268 1) : Int) = 0 ∨ ((I_268 2) : Int) < (I_268 3)) ∧ (-1 ≤ ((I_268 4) : Int) ∧ ((I_268 4) : Int) ≤ 100000) from (by first | with_reducible assumption | exact ⟨⟨by omega, by omega⟩, ⟨by omega, by omega⟩, ⟨by omega, by omega⟩, by omega, by omega, by omega⟩)), (show 0 ≤ (Mfs : Int) ∧ (Mfs : Int) ≤ 9 from (by omega)), (show KP f_263 Af from kp_264), (show ((1 : Int) = 1 ∧ ∃ q9 : Int, xLaw (tX Xf Msz) Mlt cu = (xBn (xTs (tX Xf Msz) 59 q9) fun r9 => .inr (r9, gz f_263 3562)) ∧ cu < q9 ∧ RFX (tX Xf Msz) q9 (I_268 2) (I_268 3) (I_268 1) (I_268 4) ∧ MSX f_263 (gz f_263 3560) (gz f_263 3561) (gz f_263 3562) (gz f_263 3678) F G ∧ (gz f_263 3560 = gz Af 3560 ∧ gz f_263 3561 = gz Af 3561 ∧ gz f_263 3678 = gz Af 3678) ∧ NSZ f_263 ∧ (1 : Int) = 1 ∧ (Mfs : Int) = 0 ∧ Mfp = Mfp) ∨ ((1 : Int) = 0 ∧ xLaw (tX Xf Msz) Mlt cu = .inl (Mfs, Mfp) ∧ 1 ≤ (Mfs : Int)) from (Or.inl ⟨rfl, (xEn (tX Xf Msz) (xEn (tX Xf Msz) cu)), xLaw_2 (by omega) (hlo.trans mm2.symm) (by omega), by omega, rx_276, ⟨rfl, rfl, rfl, rfl, mmF, by rw [mm1]; exact mmG⟩, ⟨by omega, by omega, by omega⟩, ns_265, rfl, by omega, by omega⟩)), (show (1 : Int) = 0 ∨ (1 : Int) = 1 from (by omega)), (show Nf = Nf from rfl)⟩ (hP.sub [2, 3, 0, 1] rfl) (hD.sub [2, 3, 0, 1] rfl rfl) dX12_aLaw_103
          ·
            have c_214 := mt (zeq (x := iZ (I_15 0)) (y := iZ 14) rfl rfl ⟨by omega, by omega⟩ ⟨by omega, by omega⟩).mpr c_214
            refine lv_aload_n hx hb dX12_aLaw_53 rfl (lv_at hl 1 rfl) ?_
            refine lv_iconst (v := iZ 2) hx hb dX12_aLaw_54 (by decide) ?_
            refine CWV (As := [.int (iZ 2)]) (rest := []) (wc := [(hm, .inr (12, [.ref Ma, .ref Mn, .int (iZ Mst), .long Mtp, .long Mbt, .ref Ms, .ref My, .ref Mt, .ref Mp, .ref Mx, .int (iZ Mtd), .int (iZ Msz), .int (iZ (I_4 1)), .int (iZ (I_4 2)), .int (iZ (I_4 3)), .int (iZ (I_4 4)), .int (iZ Mfk), .int (iZ Mfp), .int (iZ Mfs), .int (iZ Mse), .int (iZ 1), .ref Mo, .int (iZ Mdp), .int (iZ Mct), .ref Mk, .ref Ml, .ref Mb, .ref Mh, .ref Mc, .int (iZ Mdr), .int (iZ Mrs), .ref Mz, .ref Mr, .ref Mq, .int (iZ Mit), .int (iZ Mmk)])), (Mx, .inl (k 0, 900, .inl Xf))]) (wr := [(Ma, .inl (k 1, 5340, .inl Af)), (Mn, .inl (k 2, 36, .inr (.inl Nf)))]) hx hb hml hown hts hKK hP hD hS hA (y_fails l D k hm Ma Mn Ms My Mt Mp Mx Mo Mk Ml Mb Mh Mc Mz Mr Mq Mst Mtd Msz (I_4 1) (I_4 2) (I_4 3) (I_4 4) Mfk Mfp Mfs Mse 1 Mdp Mct Mdr Mrs Mit Mmk Mtp Mbt Xf 2 (xEn (tX Xf Msz) cu) ⟨by omega, by omega⟩ (by omega) rx_12) ci_X12_fails qm_X12_164 ⟨Nat.le_of_ble_eq_true rfl, Nat.le_of_ble_eq_true rfl⟩ ⟨Nat.le_of_ble_eq_true rfl, Nat.le_of_ble_eq_true rfl⟩ [2, 3] [0, 1] rfl rfl rfl rfl rfl (by decide) 0 rfl rfl rfl hl.1 rfl (Nat.le_of_ble_eq_true rfl) dX12_aLaw_55 (fun u_278 H locs hφ hP hD hS => ?_)
            obtain ⟨I_279, L_280, F_281, G_282⟩ := u_278
            obtain ⟨p_284, p_285⟩ : ((I_279 1) = xFl (tX Xf Msz) (xEn (tX Xf Msz) cu) 2 ∧ (I_279 2) = xPl (tX Xf Msz) (xEn (tX Xf Msz) cu)) ∧ (1 ≤ ((I_279 1) : Int) ∧ ((I_279 1) : Int) ≤ 9) := hφ
            refine W.eq (g2 := F0 m 58 ls [.int (iZ 0)]) rfl ?_
            have hlo : xLo (xKw (tX Xf Msz) (xEn (tX Xf Msz) cu)) = -1 := by unfold xLo; rw [if_neg (by omega), if_neg (by omega), if_neg (by omega), if_neg (by omega)]
            exact EWz hx hb hr hlocks hS (fun i => [0, (I_4 1), (I_4 2), (I_4 3), (I_4 4), (I_279 1), (I_279 2), 1].getD i 0, fun i => [0].getD i 0, fun i => [Af].getD i (fun _ => 0), fun i => [Nf].getD i (fun _ => 0)) rfl rfl ⟨(show (0 ≤ ((I_4 2) : Int) ∧ ((I_4 2) : Int) ≤ (I_4 3)) ∧ (((I_4 3) : Int) ≤ Msz ∧ (Msz : Int) ≤ 900) ∧ (0 ≤ ((I_4 1) : Int) ∧ ((I_4 1) : Int) ≤ 4) ∧ (((I_4 1) : Int) = 0 ∨ ((I_4 2) : Int) < (I_4 3)) ∧ (-1 ≤ ((I_4 4) : Int) ∧ ((I_4 4) : Int) ≤ 100000) from (by first | with_reducible assumption | exact ⟨⟨by omega, by omega⟩, ⟨by omega, by omega⟩, ⟨by omega, by omega⟩, by omega, by omega, by omega⟩)), (show 0 ≤ ((I_279 1) : Int) ∧ ((I_279 1) : Int) ≤ 9 from (by omega)), (show KP Af Af from (KP.rf Af)), (show ((0 : Int) = 1 ∧ ∃ q9 : Int, xLaw (tX Xf Msz) Mlt cu = (xBn (xTs (tX Xf Msz) 59 q9) fun r9 => .inr (r9, gz Af 3562)) ∧ cu < q9 ∧ RFX (tX Xf Msz) q9 (I_4 2) (I_4 3) (I_4 1) (I_4 4) ∧ MSX Af (gz Af 3560) (gz Af 3561) (gz Af 3562) (gz Af 3678) F G ∧ (gz Af 3560 = gz Af 3560 ∧ gz Af 3561 = gz Af 3561 ∧ gz Af 3678 = gz Af 3678) ∧ NSZ Af ∧ (1 : Int) = 1 ∧ ((I_279 1) : Int) = 0 ∧ (I_279 2) = Mfp) ∨ ((0 : Int) = 0 ∧ xLaw (tX Xf Msz) Mlt cu = .inl ((I_279 1), (I_279 2)) ∧ 1 ≤ ((I_279 1) : Int)) from (Or.inr ⟨rfl, by unfold xLaw xEr; rw [if_neg (show ¬ Mlt = 1 from (by omega)), if_pos hlo, p_284.1, p_284.2], by omega⟩)), (show (1 : Int) = 0 ∨ (1 : Int) = 1 from (by omega)), (show Nf = Nf from rfl)⟩ (hP.sub [2, 3, 0, 1] rfl) (hD.sub [2, 3, 0, 1] rfl rfl) dX12_aLaw_58
  ·
    have c_2 := mt (zeq (x := iZ Mlt) (y := iZ 0) rfl rfl ⟨by omega, by omega⟩ ⟨by omega, by omega⟩).mpr c_2
    refine lv_aload_n hx hb dX12_aLaw_7 rfl (lv_at hl 0 rfl) ?_
    refine lv_iconst (v := iZ 5) hx hb dX12_aLaw_8 (by decide) ?_
    refine CWV (As := [.int (iZ 5)]) (rest := []) (wc := [(hm, .inr (12, [.ref Ma, .ref Mn, .int (iZ Mst), .long Mtp, .long Mbt, .ref Ms, .ref My, .ref Mt, .ref Mp, .ref Mx, .int (iZ Mtd), .int (iZ Msz), .int (iZ Mtk), .int (iZ Mfr), .int (iZ Men), .int (iZ Mva), .int (iZ Mfk), .int (iZ Mfp), .int (iZ Mfs), .int (iZ Mse), .int (iZ Mlt), .ref Mo, .int (iZ Mdp), .int (iZ Mct), .ref Mk, .ref Ml, .ref Mb, .ref Mh, .ref Mc, .int (iZ Mdr), .int (iZ Mrs), .ref Mz, .ref Mr, .ref Mq, .int (iZ Mit), .int (iZ Mmk)])), (Mx, .inl (k 0, 900, .inl Xf))]) (wr := [(Ma, .inl (k 1, 5340, .inl Af)), (Mn, .inl (k 2, 36, .inr (.inl Nf)))]) hx hb hml hown hts hKK hP hD hS hA (y_fails l D k hm Ma Mn Ms My Mt Mp Mx Mo Mk Ml Mb Mh Mc Mz Mr Mq Mst Mtd Msz Mtk Mfr Men Mva Mfk Mfp Mfs Mse Mlt Mdp Mct Mdr Mrs Mit Mmk Mtp Mbt Xf 5 cu ⟨by omega, by omega⟩ (by omega) hrf) ci_X12_fails qm_X12_164 ⟨Nat.le_of_ble_eq_true rfl, Nat.le_of_ble_eq_true rfl⟩ ⟨Nat.le_of_ble_eq_true rfl, Nat.le_of_ble_eq_true rfl⟩ [0, 1] [2, 3] rfl rfl rfl rfl rfl (by decide) 0 rfl rfl rfl hl.1 rfl (Nat.le_of_ble_eq_true rfl) dX12_aLaw_9 (fun u_286 H locs hφ hP hD hS => ?_)
    obtain ⟨I_287, L_288, F_289, G_290⟩ := u_286
    obtain ⟨p_292, p_293⟩ : ((I_287 1) = xFl (tX Xf Msz) cu 5 ∧ (I_287 2) = xPl (tX Xf Msz) cu) ∧ (1 ≤ ((I_287 1) : Int) ∧ ((I_287 1) : Int) ≤ 9) := hφ
    refine W.eq (g2 := F0 m 12 ls [.int (iZ 0)]) rfl ?_
    exact EWz hx hb hr hlocks hS (fun i => [0, Mtk, Mfr, Men, Mva, (I_287 1), (I_287 2), Mlt].getD i 0, fun i => [0].getD i 0, fun i => [Af].getD i (fun _ => 0), fun i => [Nf].getD i (fun _ => 0)) rfl rfl ⟨(show (0 ≤ (Mfr : Int) ∧ (Mfr : Int) ≤ Men) ∧ ((Men : Int) ≤ Msz ∧ (Msz : Int) ≤ 900) ∧ (0 ≤ (Mtk : Int) ∧ (Mtk : Int) ≤ 4) ∧ ((Mtk : Int) = 0 ∨ (Mfr : Int) < Men) ∧ (-1 ≤ (Mva : Int) ∧ (Mva : Int) ≤ 100000) from (by first | with_reducible assumption | exact ⟨⟨by omega, by omega⟩, ⟨by omega, by omega⟩, ⟨by omega, by omega⟩, by omega, by omega, by omega⟩)), (show 0 ≤ ((I_287 1) : Int) ∧ ((I_287 1) : Int) ≤ 9 from (by omega)), (show KP Af Af from (KP.rf Af)), (show ((0 : Int) = 1 ∧ ∃ q9 : Int, xLaw (tX Xf Msz) Mlt cu = (xBn (xTs (tX Xf Msz) 59 q9) fun r9 => .inr (r9, gz Af 3562)) ∧ cu < q9 ∧ RFX (tX Xf Msz) q9 Mfr Men Mtk Mva ∧ MSX Af (gz Af 3560) (gz Af 3561) (gz Af 3562) (gz Af 3678) F G ∧ (gz Af 3560 = gz Af 3560 ∧ gz Af 3561 = gz Af 3561 ∧ gz Af 3678 = gz Af 3678) ∧ NSZ Af ∧ (Mlt : Int) = 1 ∧ ((I_287 1) : Int) = 0 ∧ (I_287 2) = Mfp) ∨ ((0 : Int) = 0 ∧ xLaw (tX Xf Msz) Mlt cu = .inl ((I_287 1), (I_287 2)) ∧ 1 ≤ ((I_287 1) : Int)) from (Or.inr ⟨rfl, by unfold xLaw xEr; rw [if_pos (by omega), p_292.1, p_292.2], by omega⟩)), (show (Mlt : Int) = 0 ∨ (Mlt : Int) = 1 from (by omega)), (show Nf = Nf from rfl)⟩ (hP.sub [2, 3, 0, 1] rfl) (hD.sub [2, 3, 0, 1] rfl rfl) dX12_aLaw_12
