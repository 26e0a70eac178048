section
set_option maxHeartbeats 4000000 in
set_option maxRecDepth 100000 in
theorem y_aLaw (l : Launch) (D : va_G) (k : Nat → ClassId) (sa sv : Nat) (hm : Nat) (Ma : Nat) (Mn : Nat) (Ms : Nat) (My : Nat) (Mt : Nat) (Mp : Nat) (Mx : Nat) (Mo : Nat) (Mk : Nat) (Ml : Nat) (Mb : Nat) (Mh : Nat) (Mc : Nat) (Mz : Nat) (Mr : Nat) (Mq : Nat) (Mst : Int) (Mtd : Int) (Msz : Int) (Mtk : Int) (Mfr : Int) (Men : Int) (Mva : Int) (Mfk : Int) (Mfp : Int) (Mfs : Int) (Mse : Int) (Mlt : Int) (Mdp : Int) (Mct : Int) (Mdr : Int) (Mrs : Int) (Mit : Int) (Mmk : Int) (Mtp : Int64) (Mbt : Int64) (Xf : Nat → Int32) (Af : Nat → Int32) (Nf : Nat → Int64) (cu : Int) (N : Int → Int) (F : Int → Int) (G : Int → Int) (hTI : (0 ≤ (Mfr : Int) ∧ (Mfr : Int) ≤ Men) ∧ ((Men : Int) ≤ Msz ∧ (Msz : Int) ≤ 900) ∧ (0 ≤ (Mtk : Int) ∧ (Mtk : Int) ≤ 4) ∧ ((Mtk : Int) ≤ 4 * (Men - Mfr)) ∧ (-1 ≤ (Mva : Int) ∧ (Mva : Int) ≤ 100000)) (hf0 : Mfs = 0) (hrf : RFX (tX Xf Msz) cu Mfr Men Mtk Mva) (hNZ : NSZ Af) (htw : Mtk = 2) (hlt : Mlt = 0 ∨ Mlt = 1) (hms : MSX Af (gz Af 3560) (gz Af 3561) (gz Af 3562) (gz Af 3678) F G) : SD (σ := ((Int × Int × Int × Int × Int × Int × Int × Int) × (Int64) × ((Nat → Int32)) × ((Nat → Int64)))) sa sv l yX12_aLaw cX12_aLaw 2 (some .boolean) 5 D k [.ref hm] [(hm, .inr (12, [.ref Ma, .ref Mn, .int (iZ Mst), .long Mtp, .long Mbt, .ref Ms, .ref My, .ref Mt, .ref Mp, .ref Mx, .int (iZ Mtd), .int (iZ Msz), .int (iZ Mtk), .int (iZ Mfr), .int (iZ Men), .int (iZ Mva), .int (iZ Mfk), .int (iZ Mfp), .int (iZ Mfs), .int (iZ Mse), .int (iZ Mlt), .ref Mo, .int (iZ Mdp), .int (iZ Mct), .ref Mk, .ref Ml, .ref Mb, .ref Mh, .ref Mc, .int (iZ Mdr), .int (iZ Mrs), .ref Mz, .ref Mr, .ref Mq, .int (iZ Mit), .int (iZ Mmk)])), (Mx, .inl (k 0, 900, .inl Xf)), (Ma, .inl (k 1, 5340, .inl Af)), (Mn, .inl (k 2, 36, .inr (.inl Nf)))] (fun u => some (.int (iZ u.1.1))) (fun u => ((0 ≤ (u.1.2.2.1 : Int) ∧ (u.1.2.2.1 : Int) ≤ u.1.2.2.2.1) ∧ ((u.1.2.2.2.1 : Int) ≤ Msz ∧ (Msz : Int) ≤ 900) ∧ (0 ≤ (u.1.2.1 : Int) ∧ (u.1.2.1 : Int) ≤ 4) ∧ ((u.1.2.1 : Int) ≤ 4 * (u.1.2.2.2.1 - u.1.2.2.1)) ∧ (-1 ≤ (u.1.2.2.2.2.1 : Int) ∧ (u.1.2.2.2.2.1 : Int) ≤ 100000)) ∧ (0 ≤ (u.1.2.2.2.2.2.1 : Int) ∧ (u.1.2.2.2.2.2.1 : Int) ≤ 9) ∧ (KP u.2.2.1 Af) ∧ (((u.1.1 : Int) = 1 ∧ ∃ q9 : Int, xLaw (tX Xf Msz) Mlt cu = (xBn (xTs (tX Xf Msz) 59 q9) fun r9 => .inr (r9, gz u.2.2.1 3562)) ∧ cu < q9 ∧ RFX (tX Xf Msz) q9 u.1.2.2.1 u.1.2.2.2.1 u.1.2.1 u.1.2.2.2.2.1 ∧ MSX u.2.2.1 (gz u.2.2.1 3560) (gz u.2.2.1 3561) (gz u.2.2.1 3562) (gz u.2.2.1 3678) F G ∧ (gz u.2.2.1 3560 = gz Af 3560 ∧ gz u.2.2.1 3561 = gz Af 3561 ∧ gz u.2.2.1 3678 = gz Af 3678) ∧ NSZ u.2.2.1 ∧ (u.1.2.2.2.2.2.2.2 : Int) = 1 ∧ (u.1.2.2.2.2.2.1 : Int) = 0 ∧ u.1.2.2.2.2.2.2.1 = Mfp) ∨ ((u.1.1 : Int) = 0 ∧ xLaw (tX Xf Msz) Mlt cu = .inl (u.1.2.2.2.2.2.1, u.1.2.2.2.2.2.2.1) ∧ 1 ≤ (u.1.2.2.2.2.2.1 : Int))) ∧ ((u.1.2.2.2.2.2.2.2 : Int) = 0 ∨ (u.1.2.2.2.2.2.2.2 : Int) = 1) ∧ (u.2.2.2 = Nf)) (fun u => [(hm, .inr (12, [.ref Ma, .ref Mn, .int (iZ Mst), .long Mtp, .long Mbt, .ref Ms, .ref My, .ref Mt, .ref Mp, .ref Mx, .int (iZ Mtd), .int (iZ Msz), .int (iZ u.1.2.1), .int (iZ u.1.2.2.1), .int (iZ u.1.2.2.2.1), .int (iZ u.1.2.2.2.2.1), .int (iZ Mfk), .int (iZ u.1.2.2.2.2.2.2.1), .int (iZ u.1.2.2.2.2.2.1), .int (iZ Mse), .int (iZ u.1.2.2.2.2.2.2.2), .ref Mo, .int (iZ Mdp), .int (iZ Mct), .ref Mk, .ref Ml, .ref Mb, .ref Mh, .ref Mc, .int (iZ Mdr), .int (iZ Mrs), .ref Mz, .ref Mr, .ref Mq, .int (iZ Mit), .int (iZ Mmk)])), (Mx, .inl (k 0, 900, .inl Xf)), (Ma, .inl (k 1, 5340, .inl u.2.2.1)), (Mn, .inl (k 2, 36, .inr (.inl u.2.2.2)))]) := by
  refine MSS (by decide) (Nat.le_of_ble_eq_true rfl) (fun p e s m below meth c ls A hx hb hml hr hlocks hin hts hown hKK hP hD hS hA hSY hRR hl => ?_)
  have hK := hKK.1
  have hl : lv_has ls 2 [(0, .ref hm)] := hl
  obtain ⟨⟨ar_1, br_1⟩, cr_1, dr_1, er_1, gr_1, hr_1⟩ := id hrf
  have kr_1 := tk_1 dr_1 (xKd_rg _ _)
  have wr_1 := xKw_rg (tX Xf Msz) cu
  replace kr_1 : Unit → _ := fun _ => kr_1
  replace er_1 : Unit → _ := fun _ => er_1
  replace gr_1 : Unit → _ := fun _ => gr_1
  replace hr_1 : Unit → _ := fun _ => hr_1
  obtain ⟨nz0, nz1, nz3, nz4, nz5, nzS⟩ := id hNZ
  refine lv_aload_n hx hb dX12_aLaw_0 rfl (lv_at hl 0 rfl) ?_
  refine va_get (D := D) (ci := 12) (v := .int (iZ Mlt)) (C := RX12) (T := TX12) (N := 36) hx hb hts iX12 hown hK hP 0 rfl rfl 20 (bl rfl) (hts _ qf_X12_198) (fun _ h => h) rfl dX12_aLaw_1 ?_
  refine lv_if_eq (tgt := 13) hx hb dX12_aLaw_4 rfl (fun c_2 => ?_) (fun c_2 => ?_)
  ·
    have c_2 := (zeq (x := iZ Mlt) (y := iZ 0) rfl rfl ⟨by omega, by omega⟩ wn_0).mp c_2
    refine lv_aload_n hx hb dX12_aLaw_13 rfl (lv_at hl 0 rfl) ?_
    refine lv_iconst (v := iZ 1) hx hb dX12_aLaw_14 rfl ?_
    refine va_put (D := D) (ci := 12) (v := .int (iZ 1)) (ty := .boolean) (C := RX12) (T := TX12) (N := 36) hx hb hts iX12 tyX12 tyX12_ok nmX12 hown hK hP hD hS 0 rfl rfl 20 (bl rfl) (hts _ qf_X12_198) (fun _ h => h) rfl (by decide +kernel) rfl rfl (Nat.le_of_ble_eq_true rfl) dX12_aLaw_15 (fun H locs hP hD hS => ?_)
    refine lv_aload_n hx hb dX12_aLaw_18 rfl (lv_at hl 0 rfl) ?_
    refine CWV (As := []) (rest := []) (wc := _) (wr := [(Ma, .inl (k 1, 5340, .inl Af)), (Mn, .inl (k 2, 36, .inr (.inl Nf)))]) hx hb hml hown hts hKK hP hD hS hA (y_onward l D k hm Ma Mn Ms My Mt Mp Mx Mo Mk Ml Mb Mh Mc Mz Mr Mq Mst Mtd Msz Mtk Mfr Men Mva Mfk Mfp Mfs Mse 1 Mdp Mct Mdr Mrs Mit Mmk Mtp Mbt Xf ⟨⟨by omega, by omega⟩, by omega⟩) ci_X12_onward qm_X12_158 ⟨Nat.le_of_ble_eq_true rfl, Nat.le_of_ble_eq_true rfl⟩ ⟨Nat.le_of_ble_eq_true rfl, Nat.le_of_ble_eq_true rfl⟩ [0, 1] [2, 3] rfl rfl rfl rfl rfl (dj rfl) 0 rfl rfl rfl hl.1 rfl (Nat.le_of_ble_eq_true rfl) dX12_aLaw_19 (fun u_3 H locs hφ hP hD hS => ?_)
    obtain ⟨p_4, p_5, p_6⟩ : (RFX (tX Xf Msz) Men u_3.1.2.2.1 u_3.1.2.2.2.1 u_3.1.2.1 u_3.1.2.2.2.2) ∧ ((0 ≤ (u_3.1.2.2.1 : Int) ∧ (u_3.1.2.2.1 : Int) ≤ u_3.1.2.2.2.1) ∧ ((u_3.1.2.2.2.1 : Int) ≤ Msz ∧ (Msz : Int) ≤ 900) ∧ (0 ≤ (u_3.1.2.1 : Int) ∧ (u_3.1.2.1 : Int) ≤ 4) ∧ ((u_3.1.2.1 : Int) ≤ 4 * (u_3.1.2.2.2.1 - u_3.1.2.2.1)) ∧ (-1 ≤ (u_3.1.2.2.2.2 : Int) ∧ (u_3.1.2.2.2.2 : Int) ≤ 100000)) ∧ (Men ≤ u_3.1.2.2.1) := hφ
    have rx_7 := RFX.nx hrf p_4
    obtain ⟨⟨ar_8, br_8⟩, cr_8, dr_8, er_8, gr_8, hr_8⟩ := id rx_7
    have kr_8 := tk_1 dr_8 (xKd_rg _ _)
    have wr_8 := xKw_rg (tX Xf Msz) (xEn (tX Xf Msz) cu)
    replace kr_8 : Unit → _ := fun _ => kr_8
    replace er_8 : Unit → _ := fun _ => er_8
    replace gr_8 : Unit → _ := fun _ => gr_8
    replace hr_8 : Unit → _ := fun _ => hr_8
    refine W.eq (g2 := F0 m 22 ls []) rfl ?_
    refine lv_aload_n hx hb dX12_aLaw_22 rfl (lv_at hl 0 rfl) ?_
    refine va_ldcS hx hb hown hRR dX12_aLaw_23 ?_
    refine CSV (As := [.ref sa]) (rest := []) (wc := _) (wr := [(Ma, .inl (k 1, 5340, .inl Af)), (Mn, .inl (k 2, 36, .inr (.inl Nf)))]) hx hb hml hown hts hKK hP hD hS hA hSY hRR (y_inWords l D k sa sv ([.ref Ma, .ref Mn, .int (iZ Mst), .long Mtp, .long Mbt, .ref Ms, .ref My, .ref Mt, .ref Mp, .ref Mx, .int (iZ Mtd), .int (iZ Msz), .int (iZ u_3.1.2.1), .int (iZ u_3.1.2.2.1), .int (iZ u_3.1.2.2.2.1), .int (iZ u_3.1.2.2.2.2), .int (iZ Mfk), .int (iZ Mfp), .int (iZ Mfs), .int (iZ Mse), .int (iZ 1), .ref Mo, .int (iZ Mdp), .int (iZ Mct), .ref Mk, .ref Ml, .ref Mb, .ref Mh, .ref Mc, .int (iZ Mdr), .int (iZ Mrs), .ref Mz, .ref Mr, .ref Mq, .int (iZ Mit), .int (iZ Mmk)]) hm Mx Msz u_3.1.2.1 u_3.1.2.2.1 u_3.1.2.2.2.1 Xf (xEn (tX Xf Msz) cu) rfl rfl rfl rfl rfl ⟨⟨⟨by omega, by omega⟩, by omega, by omega⟩, by omega, by omega⟩ ⟨⟨br_8, cr_8⟩, dr_8, gr_8 ()⟩) ci_X12_inWords qm_X12_167 ⟨Nat.le_of_ble_eq_true rfl, Nat.le_of_ble_eq_true rfl⟩ ⟨Nat.le_of_ble_eq_true rfl, Nat.le_of_ble_eq_true rfl⟩ [2, 3] [0, 1] rfl rfl rfl rfl rfl (dj rfl) 0 rfl rfl rfl hl.1 rfl (Nat.le_of_ble_eq_true rfl) dX12_aLaw_25 (fun u_9 H locs hφ hP hD hS => ?_)
    have p_10 : u_9.1 = xPm (xKw (tX Xf Msz) (xEn (tX Xf Msz) cu)) := hφ
    have pm_11 := xPm_rg (xKw_rg (tX Xf Msz) (xEn (tX Xf Msz) cu))
    refine W.eq (g2 := F0 m 28 ls [.int (iZ u_9.1)]) rfl ?_
    have pw12 : u_9.1 = 12 ↔ xKw (tX Xf Msz) (xEn (tX Xf Msz) cu) = 12 := by have h9 := xPm_inj (a := xKw (tX Xf Msz) (xEn (tX Xf Msz) cu)) (b := 12) (by omega) (by omega); rw [p_10, ← h9, show xPm 12 = 12 from (by decide)]
    have pw13 : u_9.1 = 13 ↔ xKw (tX Xf Msz) (xEn (tX Xf Msz) cu) = 13 := by have h9 := xPm_inj (a := xKw (tX Xf Msz) (xEn (tX Xf Msz) cu)) (b := 13) (by omega) (by omega); rw [p_10, ← h9, show xPm 13 = 13 from (by decide)]
    have pw4 : u_9.1 = 6 ↔ xKw (tX Xf Msz) (xEn (tX Xf Msz) cu) = 4 := by have h9 := xPm_inj (a := xKw (tX Xf Msz) (xEn (tX Xf Msz) cu)) (b := 4) (by omega) (by omega); rw [p_10, ← h9, show xPm 4 = 6 from (by decide)]
    have pw14 : u_9.1 = 14 ↔ xKw (tX Xf Msz) (xEn (tX Xf Msz) cu) = 14 := by have h9 := xPm_inj (a := xKw (tX Xf Msz) (xEn (tX Xf Msz) cu)) (b := 14) (by omega) (by omega); rw [p_10, ← h9, show xPm 14 = 14 from (by decide)]
    refine lv_istore_n (lv' := [(1, .int (iZ u_9.1)), (0, .ref hm)]) hx hb dX12_aLaw_28 rfl hl (bl rfl) rfl (fun ls hl => ?_)
    refine lv_iload_n hx hb dX12_aLaw_29 rfl (lv_at hl 0 rfl) ?_
    refine lv_bipush (v := iZ 12) hx hb dX12_aLaw_30 bip_12 ?_
    refine lv_icmp_eq (tgt := 59) hx hb dX12_aLaw_32 rfl (fun c_12 => ?_) (fun c_12 => ?_)
    ·
      have c_12 := (zeq (x := iZ u_9.1) (y := iZ 12) rfl rfl ⟨by omega, by omega⟩ wn_12).mp c_12
      refine lv_aload_n hx hb dX12_aLaw_59 rfl (lv_at hl 1 rfl) ?_
      refine va_get (D := D) (ci := 12) (v := .ref Ma) (C := RX12) (T := TX12) (N := 36) hx hb hts iX12 hown hK hP 2 rfl rfl 0 (bl rfl) (hts _ qf_X12_7) (fun _ h => h) rfl dX12_aLaw_60 ?_
      refine lv_sipush (v := iZ 3562) hx hb dX12_aLaw_63 sip_3562 ?_
      refine lv_iload_n hx hb dX12_aLaw_66 rfl (lv_at hl 0 rfl) ?_
      refine lv_bipush (v := iZ 12) hx hb dX12_aLaw_67 bip_12 ?_
      refine lv_icmp_ne (tgt := 76) hx hb dX12_aLaw_69 rfl (fun c_13 => ?_) (fun c_13 => ?_)
      ·
        have c_13 := mt (zeq (x := iZ u_9.1) (y := iZ 12) rfl rfl ⟨by omega, by omega⟩ wn_12).mpr c_13
        refine lv_iload_n hx hb dX12_aLaw_76 rfl (lv_at hl 0 rfl) ?_
        refine lv_bipush (v := iZ 13) hx hb dX12_aLaw_77 bip_13 ?_
        refine lv_icmp_ne (tgt := 86) hx hb dX12_aLaw_79 rfl (fun c_14 => ?_) (fun c_14 => ?_)
        ·
          have c_14 := mt (zeq (x := iZ u_9.1) (y := iZ 13) rfl rfl ⟨by omega, by omega⟩ wn_13).mpr c_14
          refine lv_iload_n hx hb dX12_aLaw_86 rfl (lv_at hl 0 rfl) ?_
          refine lv_bipush (v := iZ 6) hx hb dX12_aLaw_87 bip_6 ?_
          refine lv_icmp_ne (tgt := 96) hx hb dX12_aLaw_89 rfl (fun c_15 => ?_) (fun c_15 => ?_)
          ·
            have c_15 := mt (zeq (x := iZ u_9.1) (y := iZ 6) rfl rfl ⟨by omega, by omega⟩ wn_6).mpr c_15
            refine lv_iconst (v := iZ 3) hx hb dX12_aLaw_96 rfl ?_
            refine va_iast hx hb hK hP hD hS 0 1 rfl rfl (zin (e := 3562) (n := 5340) ⟨by omega, by omega⟩ (bl rfl)) dX12_aLaw_97 (fun H locs hP hD hS => ?_)
            obtain ⟨f_16, hf_16⟩ : ∃ gg9, gg9 = upd Af (iZ 3562).toNatClampNeg (iZ 3) := ⟨_, rfl⟩
            rw [← hf_16] at hP hD
            have kp_17 := KP.up hf_16 ⟨by omega, by omega⟩ ⟨by omega, by omega⟩
            have ns_18 := NSZ.far hNZ hf_16 (Or.inr rfl) ⟨by omega, by omega⟩
            have ms_19 := MSX.lw hms hf_16 (by omega) (by omega)
            refine lv_aload_n hx hb dX12_aLaw_98 rfl (lv_at hl 1 rfl) ?_
            refine CWV (As := []) (rest := []) (wc := _) (wr := [(Ma, .inl (k 1, 5340, .inl f_16)), (Mn, .inl (k 2, 36, .inr (.inl Nf)))]) hx hb hml hown hts hKK hP hD hS hA (y_onward l D k hm Ma Mn Ms My Mt Mp Mx Mo Mk Ml Mb Mh Mc Mz Mr Mq Mst Mtd Msz u_3.1.2.1 u_3.1.2.2.1 u_3.1.2.2.2.1 u_3.1.2.2.2.2 Mfk Mfp Mfs Mse 1 Mdp Mct Mdr Mrs Mit Mmk Mtp Mbt Xf ⟨⟨by omega, by omega⟩, by omega⟩) ci_X12_onward qm_X12_158 ⟨Nat.le_of_ble_eq_true rfl, Nat.le_of_ble_eq_true rfl⟩ ⟨Nat.le_of_ble_eq_true rfl, Nat.le_of_ble_eq_true rfl⟩ [2, 3] [0, 1] rfl rfl rfl rfl rfl (dj rfl) 0 rfl rfl rfl hl.1 rfl (Nat.le_of_ble_eq_true rfl) dX12_aLaw_99 (fun u_20 H locs hφ hP hD hS => ?_)
            obtain ⟨p_21, p_22, p_23⟩ : (RFX (tX Xf Msz) u_3.1.2.2.2.1 u_20.1.2.2.1 u_20.1.2.2.2.1 u_20.1.2.1 u_20.1.2.2.2.2) ∧ ((0 ≤ (u_20.1.2.2.1 : Int) ∧ (u_20.1.2.2.1 : Int) ≤ u_20.1.2.2.2.1) ∧ ((u_20.1.2.2.2.1 : Int) ≤ Msz ∧ (Msz : Int) ≤ 900) ∧ (0 ≤ (u_20.1.2.1 : Int) ∧ (u_20.1.2.1 : Int) ≤ 4) ∧ ((u_20.1.2.1 : Int) ≤ 4 * (u_20.1.2.2.2.1 - u_20.1.2.2.1)) ∧ (-1 ≤ (u_20.1.2.2.2.2 : Int) ∧ (u_20.1.2.2.2.2 : Int) ≤ 100000)) ∧ (u_3.1.2.2.2.1 ≤ u_20.1.2.2.1) := hφ
            have rx_24 := RFX.nx rx_7 p_21
            obtain ⟨⟨ar_25, br_25⟩, cr_25, dr_25, er_25, gr_25, hr_25⟩ := id rx_24
            have kr_25 := tk_1 dr_25 (xKd_rg _ _)
            have wr_25 := xKw_rg (tX Xf Msz) (xEn (tX Xf Msz) (xEn (tX Xf Msz) cu))
            replace kr_25 : Unit → _ := fun _ => kr_25
            replace er_25 : Unit → _ := fun _ => er_25
            replace gr_25 : Unit → _ := fun _ => gr_25
            replace hr_25 : Unit → _ := fun _ => hr_25
            refine W.eq (g2 := F0 m 102 ls []) rfl ?_
            refine lv_iconst (v := iZ 1) hx hb dX12_aLaw_102 rfl ?_
            have hlo : xLo (xKw (tX Xf Msz) (xEn (tX Xf Msz) cu)) = 3 := by unfold xLo; rw [if_neg (by omega), if_neg (by omega), if_neg (by omega), if_pos (by omega)]
            obtain ⟨mm0, mm1, mm2, mm3, mmF, mmG⟩ := id ms_19
            exact EWz hx hb hr hlocks hS ((1, u_20.1.2.1, u_20.1.2.2.1, u_20.1.2.2.2.1, u_20.1.2.2.2.2, Mfs, Mfp, 1), 0, f_16, Nf) rfl rfl ⟨(show (0 ≤ (u_20.1.2.2.1 : Int) ∧ (u_20.1.2.2.1 : Int) ≤ u_20.1.2.2.2.1) ∧ ((u_20.1.2.2.2.1 : Int) ≤ Msz ∧ (Msz : Int) ≤ 900) ∧ (0 ≤ (u_20.1.2.1 : Int) ∧ (u_20.1.2.1 : Int) ≤ 4) ∧ ((u_20.1.2.1 : Int) ≤ 4 * (u_20.1.2.2.2.1 - u_20.1.2.2.1)) ∧ (-1 ≤ (u_20.1.2.2.2.2 : Int) ∧ (u_20.1.2.2.2.2 : Int) ≤ 100000) from (by first | with_reducible assumption | exact (by first | with_reducible assumption | exact ⟨⟨by omega, by omega⟩, ⟨by omega, by omega⟩, ⟨by omega, by omega⟩, by omega, by omega, by omega⟩))), (show 0 ≤ (Mfs : Int) ∧ (Mfs : Int) ≤ 9 from (by omega)), (show KP f_16 Af from kp_17), (show ((1 : Int) = 1 ∧ ∃ q9 : Int, xLaw (tX Xf Msz) Mlt cu = (xBn (xTs (tX Xf Msz) 59 q9) fun r9 => .inr (r9, gz f_16 3562)) ∧ cu < q9 ∧ RFX (tX Xf Msz) q9 u_20.1.2.2.1 u_20.1.2.2.2.1 u_20.1.2.1 u_20.1.2.2.2.2 ∧ MSX f_16 (gz f_16 3560) (gz f_16 3561) (gz f_16 3562) (gz f_16 3678) F G ∧ (gz f_16 3560 = gz Af 3560 ∧ gz f_16 3561 = gz Af 3561 ∧ gz f_16 3678 = gz Af 3678) ∧ NSZ f_16 ∧ (1 : Int) = 1 ∧ (Mfs : Int) = 0 ∧ Mfp = Mfp) ∨ ((1 : Int) = 0 ∧ xLaw (tX Xf Msz) Mlt cu = .inl (Mfs, Mfp) ∧ 1 ≤ (Mfs : Int)) from (Or.inl ⟨rfl, (xEn (tX Xf Msz) (xEn (tX Xf Msz) cu)), xLaw_2 (by omega) (hlo.trans mm2.symm) (by omega), by omega, rx_24, ⟨rfl, rfl, rfl, rfl, mmF, by rw [mm1]; exact mmG⟩, ⟨by omega, by omega, by omega⟩, ns_18, rfl, by omega, by omega⟩)), (show (1 : Int) = 0 ∨ (1 : Int) = 1 from (by omega)), (show Nf = Nf from rfl)⟩ (hP.sub [2, 3, 0, 1] rfl) (hD.sub [2, 3, 0, 1] rfl rfl) dX12_aLaw_103
          ·
            have c_15 := (zeq (x := iZ u_9.1) (y := iZ 6) rfl rfl ⟨by omega, by omega⟩ wn_6).mp c_15
            refine lv_iconst (v := iZ 2) hx hb dX12_aLaw_92 rfl ?_
            refine lv_goto (tgt := 97) hx hb dX12_aLaw_93 rfl ?_
            refine va_iast hx hb hK hP hD hS 0 1 rfl rfl (zin (e := 3562) (n := 5340) ⟨by omega, by omega⟩ (bl rfl)) dX12_aLaw_97 (fun H locs hP hD hS => ?_)
            obtain ⟨f_26, hf_26⟩ : ∃ gg9, gg9 = upd Af (iZ 3562).toNatClampNeg (iZ 2) := ⟨_, rfl⟩
            rw [← hf_26] at hP hD
            have kp_27 := KP.up hf_26 ⟨by omega, by omega⟩ ⟨by omega, by omega⟩
            have ns_28 := NSZ.far hNZ hf_26 (Or.inr rfl) ⟨by omega, by omega⟩
            have ms_29 := MSX.lw hms hf_26 (by omega) (by omega)
            refine lv_aload_n hx hb dX12_aLaw_98 rfl (lv_at hl 1 rfl) ?_
            refine CWV (As := []) (rest := []) (wc := _) (wr := [(Ma, .inl (k 1, 5340, .inl f_26)), (Mn, .inl (k 2, 36, .inr (.inl Nf)))]) hx hb hml hown hts hKK hP hD hS hA (y_onward l D k hm Ma Mn Ms My Mt Mp Mx Mo Mk Ml Mb Mh Mc Mz Mr Mq Mst Mtd Msz u_3.1.2.1 u_3.1.2.2.1 u_3.1.2.2.2.1 u_3.1.2.2.2.2 Mfk Mfp Mfs Mse 1 Mdp Mct Mdr Mrs Mit Mmk Mtp Mbt Xf ⟨⟨by omega, by omega⟩, by omega⟩) ci_X12_onward qm_X12_158 ⟨Nat.le_of_ble_eq_true rfl, Nat.le_of_ble_eq_true rfl⟩ ⟨Nat.le_of_ble_eq_true rfl, Nat.le_of_ble_eq_true rfl⟩ [2, 3] [0, 1] rfl rfl rfl rfl rfl (dj rfl) 0 rfl rfl rfl hl.1 rfl (Nat.le_of_ble_eq_true rfl) dX12_aLaw_99 (fun u_30 H locs hφ hP hD hS => ?_)
            obtain ⟨p_31, p_32, p_33⟩ : (RFX (tX Xf Msz) u_3.1.2.2.2.1 u_30.1.2.2.1 u_30.1.2.2.2.1 u_30.1.2.1 u_30.1.2.2.2.2) ∧ ((0 ≤ (u_30.1.2.2.1 : Int) ∧ (u_30.1.2.2.1 : Int) ≤ u_30.1.2.2.2.1) ∧ ((u_30.1.2.2.2.1 : Int) ≤ Msz ∧ (Msz : Int) ≤ 900) ∧ (0 ≤ (u_30.1.2.1 : Int) ∧ (u_30.1.2.1 : Int) ≤ 4) ∧ ((u_30.1.2.1 : Int) ≤ 4 * (u_30.1.2.2.2.1 - u_30.1.2.2.1)) ∧ (-1 ≤ (u_30.1.2.2.2.2 : Int) ∧ (u_30.1.2.2.2.2 : Int) ≤ 100000)) ∧ (u_3.1.2.2.2.1 ≤ u_30.1.2.2.1) := hφ
            have rx_34 := RFX.nx rx_7 p_31
            obtain ⟨⟨ar_35, br_35⟩, cr_35, dr_35, er_35, gr_35, hr_35⟩ := id rx_34
            have kr_35 := tk_1 dr_35 (xKd_rg _ _)
            have wr_35 := xKw_rg (tX Xf Msz) (xEn (tX Xf Msz) (xEn (tX Xf Msz) cu))
            replace kr_35 : Unit → _ := fun _ => kr_35
            replace er_35 : Unit → _ := fun _ => er_35
            replace gr_35 : Unit → _ := fun _ => gr_35
            replace hr_35 : Unit → _ := fun _ => hr_35
            refine W.eq (g2 := F0 m 102 ls []) rfl ?_
            refine lv_iconst (v := iZ 1) hx hb dX12_aLaw_102 rfl ?_
            have hlo : xLo (xKw (tX Xf Msz) (xEn (tX Xf Msz) cu)) = 2 := by unfold xLo; rw [if_neg (by omega), if_neg (by omega), if_pos (by omega)]
            obtain ⟨mm0, mm1, mm2, mm3, mmF, mmG⟩ := id ms_29
            exact EWz hx hb hr hlocks hS ((1, u_30.1.2.1, u_30.1.2.2.1, u_30.1.2.2.2.1, u_30.1.2.2.2.2, Mfs, Mfp, 1), 0, f_26, Nf) rfl rfl ⟨(show (0 ≤ (u_30.1.2.2.1 : Int) ∧ (u_30.1.2.2.1 : Int) ≤ u_30.1.2.2.2.1) ∧ ((u_30.1.2.2.2.1 : Int) ≤ Msz ∧ (Msz : Int) ≤ 900) ∧ (0 ≤ (u_30.1.2.1 : Int) ∧ (u_30.1.2.1 : Int) ≤ 4) ∧ ((u_30.1.2.1 : Int) ≤ 4 * (u_30.1.2.2.2.1 - u_30.1.2.2.1)) ∧ (-1 ≤ (u_30.1.2.2.2.2 : Int) ∧ (u_30.1.2.2.2.2 : Int) ≤ 100000) from (by first | with_reducible assumption | exact (by first | with_reducible assumption | exact ⟨⟨by omega, by omega⟩, ⟨by omega, by omega⟩, ⟨by omega, by omega⟩, by omega, by omega, by omega⟩))), (show 0 ≤ (Mfs : Int) ∧ (Mfs : Int) ≤ 9 from (by omega)), (show KP f_26 Af from kp_27), (show ((1 : Int) = 1 ∧ ∃ q9 : Int, xLaw (tX Xf Msz) Mlt cu = (xBn (xTs (tX Xf Msz) 59 q9) fun r9 => .inr (r9, gz f_26 3562)) ∧ cu < q9 ∧ RFX (tX Xf Msz) q9 u_30.1.2.2.1 u_30.1.2.2.2.1 u_30.1.2.1 u_30.1.2.2.2.2 ∧ MSX f_26 (gz f_26 3560) (gz f_26 3561) (gz f_26 3562) (gz f_26 3678) F G ∧ (gz f_26 3560 = gz Af 3560 ∧ gz f_26 3561 = gz Af 3561 ∧ gz f_26 3678 = gz Af 3678) ∧ NSZ f_26 ∧ (1 : Int) = 1 ∧ (Mfs : Int) = 0 ∧ Mfp = Mfp) ∨ ((1 : Int) = 0 ∧ xLaw (tX Xf Msz) Mlt cu = .inl (Mfs, Mfp) ∧ 1 ≤ (Mfs : Int)) from (Or.inl ⟨rfl, (xEn (tX Xf Msz) (xEn (tX Xf Msz) cu)), xLaw_2 (by omega) (hlo.trans mm2.symm) (by omega), by omega, rx_34, ⟨rfl, rfl, rfl, rfl, mmF, by rw [mm1]; exact mmG⟩, ⟨by omega, by omega, by omega⟩, ns_28, rfl, by omega, by omega⟩)), (show (1 : Int) = 0 ∨ (1 : Int) = 1 from (by omega)), (show Nf = Nf from rfl)⟩ (hP.sub [2, 3, 0, 1] rfl) (hD.sub [2, 3, 0, 1] rfl rfl) dX12_aLaw_103
        ·
          have c_14 := (zeq (x := iZ u_9.1) (y := iZ 13) rfl rfl ⟨by omega, by omega⟩ wn_13).mp c_14
          refine lv_iconst (v := iZ 1) hx hb dX12_aLaw_82 rfl ?_
          refine lv_goto (tgt := 97) hx hb dX12_aLaw_83 rfl ?_
          refine va_iast hx hb hK hP hD hS 0 1 rfl rfl (zin (e := 3562) (n := 5340) ⟨by omega, by omega⟩ (bl rfl)) dX12_aLaw_97 (fun H locs hP hD hS => ?_)
          obtain ⟨f_36, hf_36⟩ : ∃ gg9, gg9 = upd Af (iZ 3562).toNatClampNeg (iZ 1) := ⟨_, rfl⟩
          rw [← hf_36] at hP hD
          have kp_37 := KP.up hf_36 ⟨by omega, by omega⟩ ⟨by omega, by omega⟩
          have ns_38 := NSZ.far hNZ hf_36 (Or.inr rfl) ⟨by omega, by omega⟩
          have ms_39 := MSX.lw hms hf_36 (by omega) (by omega)
          refine lv_aload_n hx hb dX12_aLaw_98 rfl (lv_at hl 1 rfl) ?_
          refine CWV (As := []) (rest := []) (wc := _) (wr := [(Ma, .inl (k 1, 5340, .inl f_36)), (Mn, .inl (k 2, 36, .inr (.inl Nf)))]) hx hb hml hown hts hKK hP hD hS hA (y_onward l D k hm Ma Mn Ms My Mt Mp Mx Mo Mk Ml Mb Mh Mc Mz Mr Mq Mst Mtd Msz u_3.1.2.1 u_3.1.2.2.1 u_3.1.2.2.2.1 u_3.1.2.2.2.2 Mfk Mfp Mfs Mse 1 Mdp Mct Mdr Mrs Mit Mmk Mtp Mbt Xf ⟨⟨by omega, by omega⟩, by omega⟩) ci_X12_onward qm_X12_158 ⟨Nat.le_of_ble_eq_true rfl, Nat.le_of_ble_eq_true rfl⟩ ⟨Nat.le_of_ble_eq_true rfl, Nat.le_of_ble_eq_true rfl⟩ [2, 3] [0, 1] rfl rfl rfl rfl rfl (dj rfl) 0 rfl rfl rfl hl.1 rfl (Nat.le_of_ble_eq_true rfl) dX12_aLaw_99 (fun u_40 H locs hφ hP hD hS => ?_)
          obtain ⟨p_41, p_42, p_43⟩ : (RFX (tX Xf Msz) u_3.1.2.2.2.1 u_40.1.2.2.1 u_40.1.2.2.2.1 u_40.1.2.1 u_40.1.2.2.2.2) ∧ ((0 ≤ (u_40.1.2.2.1 : Int) ∧ (u_40.1.2.2.1 : Int) ≤ u_40.1.2.2.2.1) ∧ ((u_40.1.2.2.2.1 : Int) ≤ Msz ∧ (Msz : Int) ≤ 900) ∧ (0 ≤ (u_40.1.2.1 : Int) ∧ (u_40.1.2.1 : Int) ≤ 4) ∧ ((u_40.1.2.1 : Int) ≤ 4 * (u_40.1.2.2.2.1 - u_40.1.2.2.1)) ∧ (-1 ≤ (u_40.1.2.2.2.2 : Int) ∧ (u_40.1.2.2.2.2 : Int) ≤ 100000)) ∧ (u_3.1.2.2.2.1 ≤ u_40.1.2.2.1) := hφ
          have rx_44 := RFX.nx rx_7 p_41
          obtain ⟨⟨ar_45, br_45⟩, cr_45, dr_45, er_45, gr_45, hr_45⟩ := id rx_44
          have kr_45 := tk_1 dr_45 (xKd_rg _ _)
          have wr_45 := xKw_rg (tX Xf Msz) (xEn (tX Xf Msz) (xEn (tX Xf Msz) cu))
          replace kr_45 : Unit → _ := fun _ => kr_45
          replace er_45 : Unit → _ := fun _ => er_45
          replace gr_45 : Unit → _ := fun _ => gr_45
          replace hr_45 : Unit → _ := fun _ => hr_45
          refine W.eq (g2 := F0 m 102 ls []) rfl ?_
          refine lv_iconst (v := iZ 1) hx hb dX12_aLaw_102 rfl ?_
          have hlo : xLo (xKw (tX Xf Msz) (xEn (tX Xf Msz) cu)) = 1 := by unfold xLo; rw [if_neg (by omega), if_pos (by omega)]
          obtain ⟨mm0, mm1, mm2, mm3, mmF, mmG⟩ := id ms_39
          exact EWz hx hb hr hlocks hS ((1, u_40.1.2.1, u_40.1.2.2.1, u_40.1.2.2.2.1, u_40.1.2.2.2.2, Mfs, Mfp, 1), 0, f_36, Nf) rfl rfl ⟨(show (0 ≤ (u_40.1.2.2.1 : Int) ∧ (u_40.1.2.2.1 : Int) ≤ u_40.1.2.2.2.1) ∧ ((u_40.1.2.2.2.1 : Int) ≤ Msz ∧ (Msz : Int) ≤ 900) ∧ (0 ≤ (u_40.1.2.1 : Int) ∧ (u_40.1.2.1 : Int) ≤ 4) ∧ ((u_40.1.2.1 : Int) ≤ 4 * (u_40.1.2.2.2.1 - u_40.1.2.2.1)) ∧ (-1 ≤ (u_40.1.2.2.2.2 : Int) ∧ (u_40.1.2.2.2.2 : Int) ≤ 100000) from (by first | with_reducible assumption | exact (by first | with_reducible assumption | exact ⟨⟨by omega, by omega⟩, ⟨by omega, by omega⟩, ⟨by omega, by omega⟩, by omega, by omega, by omega⟩))), (show 0 ≤ (Mfs : Int) ∧ (Mfs : Int) ≤ 9 from (by omega)), (show KP f_36 Af from kp_37), (show ((1 : Int) = 1 ∧ ∃ q9 : Int, xLaw (tX Xf Msz) Mlt cu = (xBn (xTs (tX Xf Msz) 59 q9) fun r9 => .inr (r9, gz f_36 3562)) ∧ cu < q9 ∧ RFX (tX Xf Msz) q9 u_40.1.2.2.1 u_40.1.2.2.2.1 u_40.1.2.1 u_40.1.2.2.2.2 ∧ MSX f_36 (gz f_36 3560) (gz f_36 3561) (gz f_36 3562) (gz f_36 3678) F G ∧ (gz f_36 3560 = gz Af 3560 ∧ gz f_36 3561 = gz Af 3561 ∧ gz f_36 3678 = gz Af 3678) ∧ NSZ f_36 ∧ (1 : Int) = 1 ∧ (Mfs : Int) = 0 ∧ Mfp = Mfp) ∨ ((1 : Int) = 0 ∧ xLaw (tX Xf Msz) Mlt cu = .inl (Mfs, Mfp) ∧ 1 ≤ (Mfs : Int)) from (Or.inl ⟨rfl, (xEn (tX Xf Msz) (xEn (tX Xf Msz) cu)), xLaw_2 (by omega) (hlo.trans mm2.symm) (by omega), by omega, rx_44, ⟨rfl, rfl, rfl, rfl, mmF, by rw [mm1]; exact mmG⟩, ⟨by omega, by omega, by omega⟩, ns_38, rfl, by omega, by omega⟩)), (show (1 : Int) = 0 ∨ (1 : Int) = 1 from (by omega)), (show Nf = Nf from rfl)⟩ (hP.sub [2, 3, 0, 1] rfl) (hD.sub [2, 3, 0, 1] rfl rfl) dX12_aLaw_103
      ·
        have c_13 := (zeq (x := iZ u_9.1) (y := iZ 12) rfl rfl ⟨by omega, by omega⟩ wn_12).mp c_13
        refine lv_iconst (v := iZ 0) hx hb dX12_aLaw_72 rfl ?_
        refine lv_goto (tgt := 97) hx hb dX12_aLaw_73 rfl ?_
        refine va_iast hx hb hK hP hD hS 0 1 rfl rfl (zin (e := 3562) (n := 5340) ⟨by omega, by omega⟩ (bl rfl)) dX12_aLaw_97 (fun H locs hP hD hS => ?_)
        obtain ⟨f_46, hf_46⟩ : ∃ gg9, gg9 = upd Af (iZ 3562).toNatClampNeg (iZ 0) := ⟨_, rfl⟩
        rw [← hf_46] at hP hD
        have kp_47 := KP.up hf_46 ⟨by omega, by omega⟩ ⟨by omega, by omega⟩
        have ns_48 := NSZ.far hNZ hf_46 (Or.inr rfl) ⟨by omega, by omega⟩
        have ms_49 := MSX.lw hms hf_46 (by omega) (by omega)
        refine lv_aload_n hx hb dX12_aLaw_98 rfl (lv_at hl 1 rfl) ?_
        refine CWV (As := []) (rest := []) (wc := _) (wr := [(Ma, .inl (k 1, 5340, .inl f_46)), (Mn, .inl (k 2, 36, .inr (.inl Nf)))]) hx hb hml hown hts hKK hP hD hS hA (y_onward l D k hm Ma Mn Ms My Mt Mp Mx Mo Mk Ml Mb Mh Mc Mz Mr Mq Mst Mtd Msz u_3.1.2.1 u_3.1.2.2.1 u_3.1.2.2.2.1 u_3.1.2.2.2.2 Mfk Mfp Mfs Mse 1 Mdp Mct Mdr Mrs Mit Mmk Mtp Mbt Xf ⟨⟨by omega, by omega⟩, by omega⟩) ci_X12_onward qm_X12_158 ⟨Nat.le_of_ble_eq_true rfl, Nat.le_of_ble_eq_true rfl⟩ ⟨Nat.le_of_ble_eq_true rfl, Nat.le_of_ble_eq_true rfl⟩ [2, 3] [0, 1] rfl rfl rfl rfl rfl (dj rfl) 0 rfl rfl rfl hl.1 rfl (Nat.le_of_ble_eq_true rfl) dX12_aLaw_99 (fun u_50 H locs hφ hP hD hS => ?_)
        obtain ⟨p_51, p_52, p_53⟩ : (RFX (tX Xf Msz) u_3.1.2.2.2.1 u_50.1.2.2.1 u_50.1.2.2.2.1 u_50.1.2.1 u_50.1.2.2.2.2) ∧ ((0 ≤ (u_50.1.2.2.1 : Int) ∧ (u_50.1.2.2.1 : Int) ≤ u_50.1.2.2.2.1) ∧ ((u_50.1.2.2.2.1 : Int) ≤ Msz ∧ (Msz : Int) ≤ 900) ∧ (0 ≤ (u_50.1.2.1 : Int) ∧ (u_50.1.2.1 : Int) ≤ 4) ∧ ((u_50.1.2.1 : Int) ≤ 4 * (u_50.1.2.2.2.1 - u_50.1.2.2.1)) ∧ (-1 ≤ (u_50.1.2.2.2.2 : Int) ∧ (u_50.1.2.2.2.2 : Int) ≤ 100000)) ∧ (u_3.1.2.2.2.1 ≤ u_50.1.2.2.1) := hφ
        have rx_54 := RFX.nx rx_7 p_51
        obtain ⟨⟨ar_55, br_55⟩, cr_55, dr_55, er_55, gr_55, hr_55⟩ := id rx_54
        have kr_55 := tk_1 dr_55 (xKd_rg _ _)
        have wr_55 := xKw_rg (tX Xf Msz) (xEn (tX Xf Msz) (xEn (tX Xf Msz) cu))
        replace kr_55 : Unit → _ := fun _ => kr_55
        replace er_55 : Unit → _ := fun _ => er_55
        replace gr_55 : Unit → _ := fun _ => gr_55
        replace hr_55 : Unit → _ := fun _ => hr_55
        refine W.eq (g2 := F0 m 102 ls []) rfl ?_
        refine lv_iconst (v := iZ 1) hx hb dX12_aLaw_102 rfl ?_
        have hlo : xLo (xKw (tX Xf Msz) (xEn (tX Xf Msz) cu)) = 0 := by unfold xLo; rw [if_pos (by omega)]
        obtain ⟨mm0, mm1, mm2, mm3, mmF, mmG⟩ := id ms_49
        exact EWz hx hb hr hlocks hS ((1, u_50.1.2.1, u_50.1.2.2.1, u_50.1.2.2.2.1, u_50.1.2.2.2.2, Mfs, Mfp, 1), 0, f_46, Nf) rfl rfl ⟨(show (0 ≤ (u_50.1.2.2.1 : Int) ∧ (u_50.1.2.2.1 : Int) ≤ u_50.1.2.2.2.1) ∧ ((u_50.1.2.2.2.1 : Int) ≤ Msz ∧ (Msz : Int) ≤ 900) ∧ (0 ≤ (u_50.1.2.1 : Int) ∧ (u_50.1.2.1 : Int) ≤ 4) ∧ ((u_50.1.2.1 : Int) ≤ 4 * (u_50.1.2.2.2.1 - u_50.1.2.2.1)) ∧ (-1 ≤ (u_50.1.2.2.2.2 : Int) ∧ (u_50.1.2.2.2.2 : Int) ≤ 100000) from (by first | with_reducible assumption | exact (by first | with_reducible assumption | exact ⟨⟨by omega, by omega⟩, ⟨by omega, by omega⟩, ⟨by omega, by omega⟩, by omega, by omega, by omega⟩))), (show 0 ≤ (Mfs : Int) ∧ (Mfs : Int) ≤ 9 from (by omega)), (show KP f_46 Af from kp_47), (show ((1 : Int) = 1 ∧ ∃ q9 : Int, xLaw (tX Xf Msz) Mlt cu = (xBn (xTs (tX Xf Msz) 59 q9) fun r9 => .inr (r9, gz f_46 3562)) ∧ cu < q9 ∧ RFX (tX Xf Msz) q9 u_50.1.2.2.1 u_50.1.2.2.2.1 u_50.1.2.1 u_50.1.2.2.2.2 ∧ MSX f_46 (gz f_46 3560) (gz f_46 3561) (gz f_46 3562) (gz f_46 3678) F G ∧ (gz f_46 3560 = gz Af 3560 ∧ gz f_46 3561 = gz Af 3561 ∧ gz f_46 3678 = gz Af 3678) ∧ NSZ f_46 ∧ (1 : Int) = 1 ∧ (Mfs : Int) = 0 ∧ Mfp = Mfp) ∨ ((1 : Int) = 0 ∧ xLaw (tX Xf Msz) Mlt cu = .inl (Mfs, Mfp) ∧ 1 ≤ (Mfs : Int)) from (Or.inl ⟨rfl, (xEn (tX Xf Msz) (xEn (tX Xf Msz) cu)), xLaw_2 (by omega) (hlo.trans mm2.symm) (by omega), by omega, rx_54, ⟨rfl, rfl, rfl, rfl, mmF, by rw [mm1]; exact mmG⟩, ⟨by omega, by omega, by omega⟩, ns_48, rfl, by omega, by omega⟩)), (show (1 : Int) = 0 ∨ (1 : Int) = 1 from (by omega)), (show Nf = Nf from rfl)⟩ (hP.sub [2, 3, 0, 1] rfl) (hD.sub [2, 3, 0, 1] rfl rfl) dX12_aLaw_103
    ·
      have c_12 := mt (zeq (x := iZ u_9.1) (y := iZ 12) rfl rfl ⟨by omega, by omega⟩ wn_12).mpr c_12
      refine lv_iload_n hx hb dX12_aLaw_35 rfl (lv_at hl 0 rfl) ?_
      refine lv_bipush (v := iZ 13) hx hb dX12_aLaw_36 bip_13 ?_
      refine lv_icmp_eq (tgt := 59) hx hb dX12_aLaw_38 rfl (fun c_56 => ?_) (fun c_56 => ?_)
      ·
        have c_56 := (zeq (x := iZ u_9.1) (y := iZ 13) rfl rfl ⟨by omega, by omega⟩ wn_13).mp c_56
        refine lv_aload_n hx hb dX12_aLaw_59 rfl (lv_at hl 1 rfl) ?_
        refine va_get (D := D) (ci := 12) (v := .ref Ma) (C := RX12) (T := TX12) (N := 36) hx hb hts iX12 hown hK hP 2 rfl rfl 0 (bl rfl) (hts _ qf_X12_7) (fun _ h => h) rfl dX12_aLaw_60 ?_
        refine lv_sipush (v := iZ 3562) hx hb dX12_aLaw_63 sip_3562 ?_
        refine lv_iload_n hx hb dX12_aLaw_66 rfl (lv_at hl 0 rfl) ?_
        refine lv_bipush (v := iZ 12) hx hb dX12_aLaw_67 bip_12 ?_
        refine lv_icmp_ne (tgt := 76) hx hb dX12_aLaw_69 rfl (fun c_57 => ?_) (fun c_57 => ?_)
        ·
          have c_57 := mt (zeq (x := iZ u_9.1) (y := iZ 12) rfl rfl ⟨by omega, by omega⟩ wn_12).mpr c_57
          refine lv_iload_n hx hb dX12_aLaw_76 rfl (lv_at hl 0 rfl) ?_
          refine lv_bipush (v := iZ 13) hx hb dX12_aLaw_77 bip_13 ?_
          refine lv_icmp_ne (tgt := 86) hx hb dX12_aLaw_79 rfl (fun c_58 => ?_) (fun c_58 => ?_)
          ·
            have c_58 := mt (zeq (x := iZ u_9.1) (y := iZ 13) rfl rfl ⟨by omega, by omega⟩ wn_13).mpr c_58
            refine lv_iload_n hx hb dX12_aLaw_86 rfl (lv_at hl 0 rfl) ?_
            refine lv_bipush (v := iZ 6) hx hb dX12_aLaw_87 bip_6 ?_
            refine lv_icmp_ne (tgt := 96) hx hb dX12_aLaw_89 rfl (fun c_59 => ?_) (fun c_59 => ?_)
            ·
              have c_59 := mt (zeq (x := iZ u_9.1) (y := iZ 6) rfl rfl ⟨by omega, by omega⟩ wn_6).mpr c_59
              refine lv_iconst (v := iZ 3) hx hb dX12_aLaw_96 rfl ?_
              refine va_iast hx hb hK hP hD hS 0 1 rfl rfl (zin (e := 3562) (n := 5340) ⟨by omega, by omega⟩ (bl rfl)) dX12_aLaw_97 (fun H locs hP hD hS => ?_)
              obtain ⟨f_60, hf_60⟩ : ∃ gg9, gg9 = upd Af (iZ 3562).toNatClampNeg (iZ 3) := ⟨_, rfl⟩
              rw [← hf_60] at hP hD
              have kp_61 := KP.up hf_60 ⟨by omega, by omega⟩ ⟨by omega, by omega⟩
              have ns_62 := NSZ.far hNZ hf_60 (Or.inr rfl) ⟨by omega, by omega⟩
              have ms_63 := MSX.lw hms hf_60 (by omega) (by omega)
              refine lv_aload_n hx hb dX12_aLaw_98 rfl (lv_at hl 1 rfl) ?_
              refine CWV (As := []) (rest := []) (wc := _) (wr := [(Ma, .inl (k 1, 5340, .inl f_60)), (Mn, .inl (k 2, 36, .inr (.inl Nf)))]) hx hb hml hown hts hKK hP hD hS hA (y_onward l D k hm Ma Mn Ms My Mt Mp Mx Mo Mk Ml Mb Mh Mc Mz Mr Mq Mst Mtd Msz u_3.1.2.1 u_3.1.2.2.1 u_3.1.2.2.2.1 u_3.1.2.2.2.2 Mfk Mfp Mfs Mse 1 Mdp Mct Mdr Mrs Mit Mmk Mtp Mbt Xf ⟨⟨by omega, by omega⟩, by omega⟩) ci_X12_onward qm_X12_158 ⟨Nat.le_of_ble_eq_true rfl, Nat.le_of_ble_eq_true rfl⟩ ⟨Nat.le_of_ble_eq_true rfl, Nat.le_of_ble_eq_true rfl⟩ [2, 3] [0, 1] rfl rfl rfl rfl rfl (dj rfl) 0 rfl rfl rfl hl.1 rfl (Nat.le_of_ble_eq_true rfl) dX12_aLaw_99 (fun u_64 H locs hφ hP hD hS => ?_)
              obtain ⟨p_65, p_66, p_67⟩ : (RFX (tX Xf Msz) u_3.1.2.2.2.1 u_64.1.2.2.1 u_64.1.2.2.2.1 u_64.1.2.1 u_64.1.2.2.2.2) ∧ ((0 ≤ (u_64.1.2.2.1 : Int) ∧ (u_64.1.2.2.1 : Int) ≤ u_64.1.2.2.2.1) ∧ ((u_64.1.2.2.2.1 : Int) ≤ Msz ∧ (Msz : Int) ≤ 900) ∧ (0 ≤ (u_64.1.2.1 : Int) ∧ (u_64.1.2.1 : Int) ≤ 4) ∧ ((u_64.1.2.1 : Int) ≤ 4 * (u_64.1.2.2.2.1 - u_64.1.2.2.1)) ∧ (-1 ≤ (u_64.1.2.2.2.2 : Int) ∧ (u_64.1.2.2.2.2 : Int) ≤ 100000)) ∧ (u_3.1.2.2.2.1 ≤ u_64.1.2.2.1) := hφ
              have rx_68 := RFX.nx rx_7 p_65
              obtain ⟨⟨ar_69, br_69⟩, cr_69, dr_69, er_69, gr_69, hr_69⟩ := id rx_68
              have kr_69 := tk_1 dr_69 (xKd_rg _ _)
              have wr_69 := xKw_rg (tX Xf Msz) (xEn (tX Xf Msz) (xEn (tX Xf Msz) cu))
              replace kr_69 : Unit → _ := fun _ => kr_69
              replace er_69 : Unit → _ := fun _ => er_69
              replace gr_69 : Unit → _ := fun _ => gr_69
              replace hr_69 : Unit → _ := fun _ => hr_69
              refine W.eq (g2 := F0 m 102 ls []) rfl ?_
              refine lv_iconst (v := iZ 1) hx hb dX12_aLaw_102 rfl ?_
              have hlo : xLo (xKw (tX Xf Msz) (xEn (tX Xf Msz) cu)) = 3 := by unfold xLo; rw [if_neg (by omega), if_neg (by omega), if_neg (by omega), if_pos (by omega)]
              obtain ⟨mm0, mm1, mm2, mm3, mmF, mmG⟩ := id ms_63
              exact EWz hx hb hr hlocks hS ((1, u_64.1.2.1, u_64.1.2.2.1, u_64.1.2.2.2.1, u_64.1.2.2.2.2, Mfs, Mfp, 1), 0, f_60, Nf) rfl rfl ⟨(show (0 ≤ (u_64.1.2.2.1 : Int) ∧ (u_64.1.2.2.1 : Int) ≤ u_64.1.2.2.2.1) ∧ ((u_64.1.2.2.2.1 : Int) ≤ Msz ∧ (Msz : Int) ≤ 900) ∧ (0 ≤ (u_64.1.2.1 : Int) ∧ (u_64.1.2.1 : Int) ≤ 4) ∧ ((u_64.1.2.1 : Int) ≤ 4 * (u_64.1.2.2.2.1 - u_64.1.2.2.1)) ∧ (-1 ≤ (u_64.1.2.2.2.2 : Int) ∧ (u_64.1.2.2.2.2 : Int) ≤ 100000) from (by first | with_reducible assumption | exact (by first | with_reducible assumption | exact ⟨⟨by omega, by omega⟩, ⟨by omega, by omega⟩, ⟨by omega, by omega⟩, by omega, by omega, by omega⟩))), (show 0 ≤ (Mfs : Int) ∧ (Mfs : Int) ≤ 9 from (by omega)), (show KP f_60 Af from kp_61), (show ((1 : Int) = 1 ∧ ∃ q9 : Int, xLaw (tX Xf Msz) Mlt cu = (xBn (xTs (tX Xf Msz) 59 q9) fun r9 => .inr (r9, gz f_60 3562)) ∧ cu < q9 ∧ RFX (tX Xf Msz) q9 u_64.1.2.2.1 u_64.1.2.2.2.1 u_64.1.2.1 u_64.1.2.2.2.2 ∧ MSX f_60 (gz f_60 3560) (gz f_60 3561) (gz f_60 3562) (gz f_60 3678) F G ∧ (gz f_60 3560 = gz Af 3560 ∧ gz f_60 3561 = gz Af 3561 ∧ gz f_60 3678 = gz Af 3678) ∧ NSZ f_60 ∧ (1 : Int) = 1 ∧ (Mfs : Int) = 0 ∧ Mfp = Mfp) ∨ ((1 : Int) = 0 ∧ xLaw (tX Xf Msz) Mlt cu = .inl (Mfs, Mfp) ∧ 1 ≤ (Mfs : Int)) from (Or.inl ⟨rfl, (xEn (tX Xf Msz) (xEn (tX Xf Msz) cu)), xLaw_2 (by omega) (hlo.trans mm2.symm) (by omega), by omega, rx_68, ⟨rfl, rfl, rfl, rfl, mmF, by rw [mm1]; exact mmG⟩, ⟨by omega, by omega, by omega⟩, ns_62, rfl, by omega, by omega⟩)), (show (1 : Int) = 0 ∨ (1 : Int) = 1 from (by omega)), (show Nf = Nf from rfl)⟩ (hP.sub [2, 3, 0, 1] rfl) (hD.sub [2, 3, 0, 1] rfl rfl) dX12_aLaw_103
            ·
              have c_59 := (zeq (x := iZ u_9.1) (y := iZ 6) rfl rfl ⟨by omega, by omega⟩ wn_6).mp c_59
              refine lv_iconst (v := iZ 2) hx hb dX12_aLaw_92 rfl ?_
              refine lv_goto (tgt := 97) hx hb dX12_aLaw_93 rfl ?_
              refine va_iast hx hb hK hP hD hS 0 1 rfl rfl (zin (e := 3562) (n := 5340) ⟨by omega, by omega⟩ (bl rfl)) dX12_aLaw_97 (fun H locs hP hD hS => ?_)
              obtain ⟨f_70, hf_70⟩ : ∃ gg9, gg9 = upd Af (iZ 3562).toNatClampNeg (iZ 2) := ⟨_, rfl⟩
              rw [← hf_70] at hP hD
              have kp_71 := KP.up hf_70 ⟨by omega, by omega⟩ ⟨by omega, by omega⟩
              have ns_72 := NSZ.far hNZ hf_70 (Or.inr rfl) ⟨by omega, by omega⟩
              have ms_73 := MSX.lw hms hf_70 (by omega) (by omega)
              refine lv_aload_n hx hb dX12_aLaw_98 rfl (lv_at hl 1 rfl) ?_
              refine CWV (As := []) (rest := []) (wc := _) (wr := [(Ma, .inl (k 1, 5340, .inl f_70)), (Mn, .inl (k 2, 36, .inr (.inl Nf)))]) hx hb hml hown hts hKK hP hD hS hA (y_onward l D k hm Ma Mn Ms My Mt Mp Mx Mo Mk Ml Mb Mh Mc Mz Mr Mq Mst Mtd Msz u_3.1.2.1 u_3.1.2.2.1 u_3.1.2.2.2.1 u_3.1.2.2.2.2 Mfk Mfp Mfs Mse 1 Mdp Mct Mdr Mrs Mit Mmk Mtp Mbt Xf ⟨⟨by omega, by omega⟩, by omega⟩) ci_X12_onward qm_X12_158 ⟨Nat.le_of_ble_eq_true rfl, Nat.le_of_ble_eq_true rfl⟩ ⟨Nat.le_of_ble_eq_true rfl, Nat.le_of_ble_eq_true rfl⟩ [2, 3] [0, 1] rfl rfl rfl rfl rfl (dj rfl) 0 rfl rfl rfl hl.1 rfl (Nat.le_of_ble_eq_true rfl) dX12_aLaw_99 (fun u_74 H locs hφ hP hD hS => ?_)
              obtain ⟨p_75, p_76, p_77⟩ : (RFX (tX Xf Msz) u_3.1.2.2.2.1 u_74.1.2.2.1 u_74.1.2.2.2.1 u_74.1.2.1 u_74.1.2.2.2.2) ∧ ((0 ≤ (u_74.1.2.2.1 : Int) ∧ (u_74.1.2.2.1 : Int) ≤ u_74.1.2.2.2.1) ∧ ((u_74.1.2.2.2.1 : Int) ≤ Msz ∧ (Msz : Int) ≤ 900) ∧ (0 ≤ (u_74.1.2.1 : Int) ∧ (u_74.1.2.1 : Int) ≤ 4) ∧ ((u_74.1.2.1 : Int) ≤ 4 * (u_74.1.2.2.2.1 - u_74.1.2.2.1)) ∧ (-1 ≤ (u_74.1.2.2.2.2 : Int) ∧ (u_74.1.2.2.2.2 : Int) ≤ 100000)) ∧ (u_3.1.2.2.2.1 ≤ u_74.1.2.2.1) := hφ
              have rx_78 := RFX.nx rx_7 p_75
              obtain ⟨⟨ar_79, br_79⟩, cr_79, dr_79, er_79, gr_79, hr_79⟩ := id rx_78
              have kr_79 := tk_1 dr_79 (xKd_rg _ _)
              have wr_79 := xKw_rg (tX Xf Msz) (xEn (tX Xf Msz) (xEn (tX Xf Msz) cu))
              replace kr_79 : Unit → _ := fun _ => kr_79
              replace er_79 : Unit → _ := fun _ => er_79
              replace gr_79 : Unit → _ := fun _ => gr_79
              replace hr_79 : Unit → _ := fun _ => hr_79
              refine W.eq (g2 := F0 m 102 ls []) rfl ?_
              refine lv_iconst (v := iZ 1) hx hb dX12_aLaw_102 rfl ?_
              have hlo : xLo (xKw (tX Xf Msz) (xEn (tX Xf Msz) cu)) = 2 := by unfold xLo; rw [if_neg (by omega), if_neg (by omega), if_pos (by omega)]
              obtain ⟨mm0, mm1, mm2, mm3, mmF, mmG⟩ := id ms_73
              exact EWz hx hb hr hlocks hS ((1, u_74.1.2.1, u_74.1.2.2.1, u_74.1.2.2.2.1, u_74.1.2.2.2.2, Mfs, Mfp, 1), 0, f_70, Nf) rfl rfl ⟨(show (0 ≤ (u_74.1.2.2.1 : Int) ∧ (u_74.1.2.2.1 : Int) ≤ u_74.1.2.2.2.1) ∧ ((u_74.1.2.2.2.1 : Int) ≤ Msz ∧ (Msz : Int) ≤ 900) ∧ (0 ≤ (u_74.1.2.1 : Int) ∧ (u_74.1.2.1 : Int) ≤ 4) ∧ ((u_74.1.2.1 : Int) ≤ 4 * (u_74.1.2.2.2.1 - u_74.1.2.2.1)) ∧ (-1 ≤ (u_74.1.2.2.2.2 : Int) ∧ (u_74.1.2.2.2.2 : Int) ≤ 100000) from (by first | with_reducible assumption | exact (by first | with_reducible assumption | exact ⟨⟨by omega, by omega⟩, ⟨by omega, by omega⟩, ⟨by omega, by omega⟩, by omega, by omega, by omega⟩))), (show 0 ≤ (Mfs : Int) ∧ (Mfs : Int) ≤ 9 from (by omega)), (show KP f_70 Af from kp_71), (show ((1 : Int) = 1 ∧ ∃ q9 : Int, xLaw (tX Xf Msz) Mlt cu = (xBn (xTs (tX Xf Msz) 59 q9) fun r9 => .inr (r9, gz f_70 3562)) ∧ cu < q9 ∧ RFX (tX Xf Msz) q9 u_74.1.2.2.1 u_74.1.2.2.2.1 u_74.1.2.1 u_74.1.2.2.2.2 ∧ MSX f_70 (gz f_70 3560) (gz f_70 3561) (gz f_70 3562) (gz f_70 3678) F G ∧ (gz f_70 3560 = gz Af 3560 ∧ gz f_70 3561 = gz Af 3561 ∧ gz f_70 3678 = gz Af 3678) ∧ NSZ f_70 ∧ (1 : Int) = 1 ∧ (Mfs : Int) = 0 ∧ Mfp = Mfp) ∨ ((1 : Int) = 0 ∧ xLaw (tX Xf Msz) Mlt cu = .inl (Mfs, Mfp) ∧ 1 ≤ (Mfs : Int)) from (Or.inl ⟨rfl, (xEn (tX Xf Msz) (xEn (tX Xf Msz) cu)), xLaw_2 (by omega) (hlo.trans mm2.symm) (by omega), by omega, rx_78, ⟨rfl, rfl, rfl, rfl, mmF, by rw [mm1]; exact mmG⟩, ⟨by omega, by omega, by omega⟩, ns_72, rfl, by omega, by omega⟩)), (show (1 : Int) = 0 ∨ (1 : Int) = 1 from (by omega)), (show Nf = Nf from rfl)⟩ (hP.sub [2, 3, 0, 1] rfl) (hD.sub [2, 3, 0, 1] rfl rfl) dX12_aLaw_103
          ·
            have c_58 := (zeq (x := iZ u_9.1) (y := iZ 13) rfl rfl ⟨by omega, by omega⟩ wn_13).mp c_58
            refine lv_iconst (v := iZ 1) hx hb dX12_aLaw_82 rfl ?_
            refine lv_goto (tgt := 97) hx hb dX12_aLaw_83 rfl ?_
            refine va_iast hx hb hK hP hD hS 0 1 rfl rfl (zin (e := 3562) (n := 5340) ⟨by omega, by omega⟩ (bl rfl)) dX12_aLaw_97 (fun H locs hP hD hS => ?_)
            obtain ⟨f_80, hf_80⟩ : ∃ gg9, gg9 = upd Af (iZ 3562).toNatClampNeg (iZ 1) := ⟨_, rfl⟩
            rw [← hf_80] at hP hD
            have kp_81 := KP.up hf_80 ⟨by omega, by omega⟩ ⟨by omega, by omega⟩
            have ns_82 := NSZ.far hNZ hf_80 (Or.inr rfl) ⟨by omega, by omega⟩
            have ms_83 := MSX.lw hms hf_80 (by omega) (by omega)
            refine lv_aload_n hx hb dX12_aLaw_98 rfl (lv_at hl 1 rfl) ?_
            refine CWV (As := []) (rest := []) (wc := _) (wr := [(Ma, .inl (k 1, 5340, .inl f_80)), (Mn, .inl (k 2, 36, .inr (.inl Nf)))]) hx hb hml hown hts hKK hP hD hS hA (y_onward l D k hm Ma Mn Ms My Mt Mp Mx Mo Mk Ml Mb Mh Mc Mz Mr Mq Mst Mtd Msz u_3.1.2.1 u_3.1.2.2.1 u_3.1.2.2.2.1 u_3.1.2.2.2.2 Mfk Mfp Mfs Mse 1 Mdp Mct Mdr Mrs Mit Mmk Mtp Mbt Xf ⟨⟨by omega, by omega⟩, by omega⟩) ci_X12_onward qm_X12_158 ⟨Nat.le_of_ble_eq_true rfl, Nat.le_of_ble_eq_true rfl⟩ ⟨Nat.le_of_ble_eq_true rfl, Nat.le_of_ble_eq_true rfl⟩ [2, 3] [0, 1] rfl rfl rfl rfl rfl (dj rfl) 0 rfl rfl rfl hl.1 rfl (Nat.le_of_ble_eq_true rfl) dX12_aLaw_99 (fun u_84 H locs hφ hP hD hS => ?_)
            obtain ⟨p_85, p_86, p_87⟩ : (RFX (tX Xf Msz) u_3.1.2.2.2.1 u_84.1.2.2.1 u_84.1.2.2.2.1 u_84.1.2.1 u_84.1.2.2.2.2) ∧ ((0 ≤ (u_84.1.2.2.1 : Int) ∧ (u_84.1.2.2.1 : Int) ≤ u_84.1.2.2.2.1) ∧ ((u_84.1.2.2.2.1 : Int) ≤ Msz ∧ (Msz : Int) ≤ 900) ∧ (0 ≤ (u_84.1.2.1 : Int) ∧ (u_84.1.2.1 : Int) ≤ 4) ∧ ((u_84.1.2.1 : Int) ≤ 4 * (u_84.1.2.2.2.1 - u_84.1.2.2.1)) ∧ (-1 ≤ (u_84.1.2.2.2.2 : Int) ∧ (u_84.1.2.2.2.2 : Int) ≤ 100000)) ∧ (u_3.1.2.2.2.1 ≤ u_84.1.2.2.1) := hφ
            have rx_88 := RFX.nx rx_7 p_85
            obtain ⟨⟨ar_89, br_89⟩, cr_89, dr_89, er_89, gr_89, hr_89⟩ := id rx_88
            have kr_89 := tk_1 dr_89 (xKd_rg _ _)
            have wr_89 := xKw_rg (tX Xf Msz) (xEn (tX Xf Msz) (xEn (tX Xf Msz) cu))
            replace kr_89 : Unit → _ := fun _ => kr_89
            replace er_89 : Unit → _ := fun _ => er_89
            replace gr_89 : Unit → _ := fun _ => gr_89
            replace hr_89 : Unit → _ := fun _ => hr_89
            refine W.eq (g2 := F0 m 102 ls []) rfl ?_
            refine lv_iconst (v := iZ 1) hx hb dX12_aLaw_102 rfl ?_
            have hlo : xLo (xKw (tX Xf Msz) (xEn (tX Xf Msz) cu)) = 1 := by unfold xLo; rw [if_neg (by omega), if_pos (by omega)]
            obtain ⟨mm0, mm1, mm2, mm3, mmF, mmG⟩ := id ms_83
            exact EWz hx hb hr hlocks hS ((1, u_84.1.2.1, u_84.1.2.2.1, u_84.1.2.2.2.1, u_84.1.2.2.2.2, Mfs, Mfp, 1), 0, f_80, Nf) rfl rfl ⟨(show (0 ≤ (u_84.1.2.2.1 : Int) ∧ (u_84.1.2.2.1 : Int) ≤ u_84.1.2.2.2.1) ∧ ((u_84.1.2.2.2.1 : Int) ≤ Msz ∧ (Msz : Int) ≤ 900) ∧ (0 ≤ (u_84.1.2.1 : Int) ∧ (u_84.1.2.1 : Int) ≤ 4) ∧ ((u_84.1.2.1 : Int) ≤ 4 * (u_84.1.2.2.2.1 - u_84.1.2.2.1)) ∧ (-1 ≤ (u_84.1.2.2.2.2 : Int) ∧ (u_84.1.2.2.2.2 : Int) ≤ 100000) from (by first | with_reducible assumption | exact (by first | with_reducible assumption | exact ⟨⟨by omega, by omega⟩, ⟨by omega, by omega⟩, ⟨by omega, by omega⟩, by omega, by omega, by omega⟩))), (show 0 ≤ (Mfs : Int) ∧ (Mfs : Int) ≤ 9 from (by omega)), (show KP f_80 Af from kp_81), (show ((1 : Int) = 1 ∧ ∃ q9 : Int, xLaw (tX Xf Msz) Mlt cu = (xBn (xTs (tX Xf Msz) 59 q9) fun r9 => .inr (r9, gz f_80 3562)) ∧ cu < q9 ∧ RFX (tX Xf Msz) q9 u_84.1.2.2.1 u_84.1.2.2.2.1 u_84.1.2.1 u_84.1.2.2.2.2 ∧ MSX f_80 (gz f_80 3560) (gz f_80 3561) (gz f_80 3562) (gz f_80 3678) F G ∧ (gz f_80 3560 = gz Af 3560 ∧ gz f_80 3561 = gz Af 3561 ∧ gz f_80 3678 = gz Af 3678) ∧ NSZ f_80 ∧ (1 : Int) = 1 ∧ (Mfs : Int) = 0 ∧ Mfp = Mfp) ∨ ((1 : Int) = 0 ∧ xLaw (tX Xf Msz) Mlt cu = .inl (Mfs, Mfp) ∧ 1 ≤ (Mfs : Int)) from (Or.inl ⟨rfl, (xEn (tX Xf Msz) (xEn (tX Xf Msz) cu)), xLaw_2 (by omega) (hlo.trans mm2.symm) (by omega), by omega, rx_88, ⟨rfl, rfl, rfl, rfl, mmF, by rw [mm1]; exact mmG⟩, ⟨by omega, by omega, by omega⟩, ns_82, rfl, by omega, by omega⟩)), (show (1 : Int) = 0 ∨ (1 : Int) = 1 from (by omega)), (show Nf = Nf from rfl)⟩ (hP.sub [2, 3, 0, 1] rfl) (hD.sub [2, 3, 0, 1] rfl rfl) dX12_aLaw_103
        ·
          have c_57 := (zeq (x := iZ u_9.1) (y := iZ 12) rfl rfl ⟨by omega, by omega⟩ wn_12).mp c_57
          refine lv_iconst (v := iZ 0) hx hb dX12_aLaw_72 rfl ?_
          refine lv_goto (tgt := 97) hx hb dX12_aLaw_73 rfl ?_
          refine va_iast hx hb hK hP hD hS 0 1 rfl rfl (zin (e := 3562) (n := 5340) ⟨by omega, by omega⟩ (bl rfl)) dX12_aLaw_97 (fun H locs hP hD hS => ?_)
          obtain ⟨f_90, hf_90⟩ : ∃ gg9, gg9 = upd Af (iZ 3562).toNatClampNeg (iZ 0) := ⟨_, rfl⟩
          rw [← hf_90] at hP hD
          have kp_91 := KP.up hf_90 ⟨by omega, by omega⟩ ⟨by omega, by omega⟩
          have ns_92 := NSZ.far hNZ hf_90 (Or.inr rfl) ⟨by omega, by omega⟩
          have ms_93 := MSX.lw hms hf_90 (by omega) (by omega)
          refine lv_aload_n hx hb dX12_aLaw_98 rfl (lv_at hl 1 rfl) ?_
          refine CWV (As := []) (rest := []) (wc := _) (wr := [(Ma, .inl (k 1, 5340, .inl f_90)), (Mn, .inl (k 2, 36, .inr (.inl Nf)))]) hx hb hml hown hts hKK hP hD hS hA (y_onward l D k hm Ma Mn Ms My Mt Mp Mx Mo Mk Ml Mb Mh Mc Mz Mr Mq Mst Mtd Msz u_3.1.2.1 u_3.1.2.2.1 u_3.1.2.2.2.1 u_3.1.2.2.2.2 Mfk Mfp Mfs Mse 1 Mdp Mct Mdr Mrs Mit Mmk Mtp Mbt Xf ⟨⟨by omega, by omega⟩, by omega⟩) ci_X12_onward qm_X12_158 ⟨Nat.le_of_ble_eq_true rfl, Nat.le_of_ble_eq_true rfl⟩ ⟨Nat.le_of_ble_eq_true rfl, Nat.le_of_ble_eq_true rfl⟩ [2, 3] [0, 1] rfl rfl rfl rfl rfl (dj rfl) 0 rfl rfl rfl hl.1 rfl (Nat.le_of_ble_eq_true rfl) dX12_aLaw_99 (fun u_94 H locs hφ hP hD hS => ?_)
          obtain ⟨p_95, p_96, p_97⟩ : (RFX (tX Xf Msz) u_3.1.2.2.2.1 u_94.1.2.2.1 u_94.1.2.2.2.1 u_94.1.2.1 u_94.1.2.2.2.2) ∧ ((0 ≤ (u_94.1.2.2.1 : Int) ∧ (u_94.1.2.2.1 : Int) ≤ u_94.1.2.2.2.1) ∧ ((u_94.1.2.2.2.1 : Int) ≤ Msz ∧ (Msz : Int) ≤ 900) ∧ (0 ≤ (u_94.1.2.1 : Int) ∧ (u_94.1.2.1 : Int) ≤ 4) ∧ ((u_94.1.2.1 : Int) ≤ 4 * (u_94.1.2.2.2.1 - u_94.1.2.2.1)) ∧ (-1 ≤ (u_94.1.2.2.2.2 : Int) ∧ (u_94.1.2.2.2.2 : Int) ≤ 100000)) ∧ (u_3.1.2.2.2.1 ≤ u_94.1.2.2.1) := hφ
          have rx_98 := RFX.nx rx_7 p_95
          obtain ⟨⟨ar_99, br_99⟩, cr_99, dr_99, er_99, gr_99, hr_99⟩ := id rx_98
          have kr_99 := tk_1 dr_99 (xKd_rg _ _)
          have wr_99 := xKw_rg (tX Xf Msz) (xEn (tX Xf Msz) (xEn (tX Xf Msz) cu))
          replace kr_99 : Unit → _ := fun _ => kr_99
          replace er_99 : Unit → _ := fun _ => er_99
          replace gr_99 : Unit → _ := fun _ => gr_99
          replace hr_99 : Unit → _ := fun _ => hr_99
          refine W.eq (g2 := F0 m 102 ls []) rfl ?_
          refine lv_iconst (v := iZ 1) hx hb dX12_aLaw_102 rfl ?_
          have hlo : xLo (xKw (tX Xf Msz) (xEn (tX Xf Msz) cu)) = 0 := by unfold xLo; rw [if_pos (by omega)]
          obtain ⟨mm0, mm1, mm2, mm3, mmF, mmG⟩ := id ms_93
          exact EWz hx hb hr hlocks hS ((1, u_94.1.2.1, u_94.1.2.2.1, u_94.1.2.2.2.1, u_94.1.2.2.2.2, Mfs, Mfp, 1), 0, f_90, Nf) rfl rfl ⟨(show (0 ≤ (u_94.1.2.2.1 : Int) ∧ (u_94.1.2.2.1 : Int) ≤ u_94.1.2.2.2.1) ∧ ((u_94.1.2.2.2.1 : Int) ≤ Msz ∧ (Msz : Int) ≤ 900) ∧ (0 ≤ (u_94.1.2.1 : Int) ∧ (u_94.1.2.1 : Int) ≤ 4) ∧ ((u_94.1.2.1 : Int) ≤ 4 * (u_94.1.2.2.2.1 - u_94.1.2.2.1)) ∧ (-1 ≤ (u_94.1.2.2.2.2 : Int) ∧ (u_94.1.2.2.2.2 : Int) ≤ 100000) from (by first | with_reducible assumption | exact (by first | with_reducible assumption | exact ⟨⟨by omega, by omega⟩, ⟨by omega, by omega⟩, ⟨by omega, by omega⟩, by omega, by omega, by omega⟩))), (show 0 ≤ (Mfs : Int) ∧ (Mfs : Int) ≤ 9 from (by omega)), (show KP f_90 Af from kp_91), (show ((1 : Int) = 1 ∧ ∃ q9 : Int, xLaw (tX Xf Msz) Mlt cu = (xBn (xTs (tX Xf Msz) 59 q9) fun r9 => .inr (r9, gz f_90 3562)) ∧ cu < q9 ∧ RFX (tX Xf Msz) q9 u_94.1.2.2.1 u_94.1.2.2.2.1 u_94.1.2.1 u_94.1.2.2.2.2 ∧ MSX f_90 (gz f_90 3560) (gz f_90 3561) (gz f_90 3562) (gz f_90 3678) F G ∧ (gz f_90 3560 = gz Af 3560 ∧ gz f_90 3561 = gz Af 3561 ∧ gz f_90 3678 = gz Af 3678) ∧ NSZ f_90 ∧ (1 : Int) = 1 ∧ (Mfs : Int) = 0 ∧ Mfp = Mfp) ∨ ((1 : Int) = 0 ∧ xLaw (tX Xf Msz) Mlt cu = .inl (Mfs, Mfp) ∧ 1 ≤ (Mfs : Int)) from (Or.inl ⟨rfl, (xEn (tX Xf Msz) (xEn (tX Xf Msz) cu)), xLaw_2 (by omega) (hlo.trans mm2.symm) (by omega), by omega, rx_98, ⟨rfl, rfl, rfl, rfl, mmF, by rw [mm1]; exact mmG⟩, ⟨by omega, by omega, by omega⟩, ns_92, rfl, by omega, by omega⟩)), (show (1 : Int) = 0 ∨ (1 : Int) = 1 from (by omega)), (show Nf = Nf from rfl)⟩ (hP.sub [2, 3, 0, 1] rfl) (hD.sub [2, 3, 0, 1] rfl rfl) dX12_aLaw_103
      ·
        have c_56 := mt (zeq (x := iZ u_9.1) (y := iZ 13) rfl rfl ⟨by omega, by omega⟩ wn_13).mpr c_56
        refine lv_iload_n hx hb dX12_aLaw_41 rfl (lv_at hl 0 rfl) ?_
        refine lv_bipush (v := iZ 6) hx hb dX12_aLaw_42 bip_6 ?_
        refine lv_icmp_eq (tgt := 59) hx hb dX12_aLaw_44 rfl (fun c_100 => ?_) (fun c_100 => ?_)
        ·
          have c_100 := (zeq (x := iZ u_9.1) (y := iZ 6) rfl rfl ⟨by omega, by omega⟩ wn_6).mp c_100
          refine lv_aload_n hx hb dX12_aLaw_59 rfl (lv_at hl 1 rfl) ?_
          refine va_get (D := D) (ci := 12) (v := .ref Ma) (C := RX12) (T := TX12) (N := 36) hx hb hts iX12 hown hK hP 2 rfl rfl 0 (bl rfl) (hts _ qf_X12_7) (fun _ h => h) rfl dX12_aLaw_60 ?_
          refine lv_sipush (v := iZ 3562) hx hb dX12_aLaw_63 sip_3562 ?_
          refine lv_iload_n hx hb dX12_aLaw_66 rfl (lv_at hl 0 rfl) ?_
          refine lv_bipush (v := iZ 12) hx hb dX12_aLaw_67 bip_12 ?_
          refine lv_icmp_ne (tgt := 76) hx hb dX12_aLaw_69 rfl (fun c_101 => ?_) (fun c_101 => ?_)
          ·
            have c_101 := mt (zeq (x := iZ u_9.1) (y := iZ 12) rfl rfl ⟨by omega, by omega⟩ wn_12).mpr c_101
            refine lv_iload_n hx hb dX12_aLaw_76 rfl (lv_at hl 0 rfl) ?_
            refine lv_bipush (v := iZ 13) hx hb dX12_aLaw_77 bip_13 ?_
            refine lv_icmp_ne (tgt := 86) hx hb dX12_aLaw_79 rfl (fun c_102 => ?_) (fun c_102 => ?_)
            ·
              have c_102 := mt (zeq (x := iZ u_9.1) (y := iZ 13) rfl rfl ⟨by omega, by omega⟩ wn_13).mpr c_102
              refine lv_iload_n hx hb dX12_aLaw_86 rfl (lv_at hl 0 rfl) ?_
              refine lv_bipush (v := iZ 6) hx hb dX12_aLaw_87 bip_6 ?_
              refine lv_icmp_ne (tgt := 96) hx hb dX12_aLaw_89 rfl (fun c_103 => ?_) (fun c_103 => ?_)
              ·
                have c_103 := mt (zeq (x := iZ u_9.1) (y := iZ 6) rfl rfl ⟨by omega, by omega⟩ wn_6).mpr c_103
                refine lv_iconst (v := iZ 3) hx hb dX12_aLaw_96 rfl ?_
                refine va_iast hx hb hK hP hD hS 0 1 rfl rfl (zin (e := 3562) (n := 5340) ⟨by omega, by omega⟩ (bl rfl)) dX12_aLaw_97 (fun H locs hP hD hS => ?_)
                obtain ⟨f_104, hf_104⟩ : ∃ gg9, gg9 = upd Af (iZ 3562).toNatClampNeg (iZ 3) := ⟨_, rfl⟩
                rw [← hf_104] at hP hD
                have kp_105 := KP.up hf_104 ⟨by omega, by omega⟩ ⟨by omega, by omega⟩
                have ns_106 := NSZ.far hNZ hf_104 (Or.inr rfl) ⟨by omega, by omega⟩
                have ms_107 := MSX.lw hms hf_104 (by omega) (by omega)
                refine lv_aload_n hx hb dX12_aLaw_98 rfl (lv_at hl 1 rfl) ?_
                refine CWV (As := []) (rest := []) (wc := _) (wr := [(Ma, .inl (k 1, 5340, .inl f_104)), (Mn, .inl (k 2, 36, .inr (.inl Nf)))]) hx hb hml hown hts hKK hP hD hS hA (y_onward l D k hm Ma Mn Ms My Mt Mp Mx Mo Mk Ml Mb Mh Mc Mz Mr Mq Mst Mtd Msz u_3.1.2.1 u_3.1.2.2.1 u_3.1.2.2.2.1 u_3.1.2.2.2.2 Mfk Mfp Mfs Mse 1 Mdp Mct Mdr Mrs Mit Mmk Mtp Mbt Xf ⟨⟨by omega, by omega⟩, by omega⟩) ci_X12_onward qm_X12_158 ⟨Nat.le_of_ble_eq_true rfl, Nat.le_of_ble_eq_true rfl⟩ ⟨Nat.le_of_ble_eq_true rfl, Nat.le_of_ble_eq_true rfl⟩ [2, 3] [0, 1] rfl rfl rfl rfl rfl (dj rfl) 0 rfl rfl rfl hl.1 rfl (Nat.le_of_ble_eq_true rfl) dX12_aLaw_99 (fun u_108 H locs hφ hP hD hS => ?_)
                obtain ⟨p_109, p_110, p_111⟩ : (RFX (tX Xf Msz) u_3.1.2.2.2.1 u_108.1.2.2.1 u_108.1.2.2.2.1 u_108.1.2.1 u_108.1.2.2.2.2) ∧ ((0 ≤ (u_108.1.2.2.1 : Int) ∧ (u_108.1.2.2.1 : Int) ≤ u_108.1.2.2.2.1) ∧ ((u_108.1.2.2.2.1 : Int) ≤ Msz ∧ (Msz : Int) ≤ 900) ∧ (0 ≤ (u_108.1.2.1 : Int) ∧ (u_108.1.2.1 : Int) ≤ 4) ∧ ((u_108.1.2.1 : Int) ≤ 4 * (u_108.1.2.2.2.1 - u_108.1.2.2.1)) ∧ (-1 ≤ (u_108.1.2.2.2.2 : Int) ∧ (u_108.1.2.2.2.2 : Int) ≤ 100000)) ∧ (u_3.1.2.2.2.1 ≤ u_108.1.2.2.1) := hφ
                have rx_112 := RFX.nx rx_7 p_109
                obtain ⟨⟨ar_113, br_113⟩, cr_113, dr_113, er_113, gr_113, hr_113⟩ := id rx_112
                have kr_113 := tk_1 dr_113 (xKd_rg _ _)
                have wr_113 := xKw_rg (tX Xf Msz) (xEn (tX Xf Msz) (xEn (tX Xf Msz) cu))
                replace kr_113 : Unit → _ := fun _ => kr_113
                replace er_113 : Unit → _ := fun _ => er_113
                replace gr_113 : Unit → _ := fun _ => gr_113
                replace hr_113 : Unit → _ := fun _ => hr_113
                refine W.eq (g2 := F0 m 102 ls []) rfl ?_
                refine lv_iconst (v := iZ 1) hx hb dX12_aLaw_102 rfl ?_
                have hlo : xLo (xKw (tX Xf Msz) (xEn (tX Xf Msz) cu)) = 3 := by unfold xLo; rw [if_neg (by omega), if_neg (by omega), if_neg (by omega), if_pos (by omega)]
                obtain ⟨mm0, mm1, mm2, mm3, mmF, mmG⟩ := id ms_107
                exact EWz hx hb hr hlocks hS ((1, u_108.1.2.1, u_108.1.2.2.1, u_108.1.2.2.2.1, u_108.1.2.2.2.2, Mfs, Mfp, 1), 0, f_104, Nf) rfl rfl ⟨(show (0 ≤ (u_108.1.2.2.1 : Int) ∧ (u_108.1.2.2.1 : Int) ≤ u_108.1.2.2.2.1) ∧ ((u_108.1.2.2.2.1 : Int) ≤ Msz ∧ (Msz : Int) ≤ 900) ∧ (0 ≤ (u_108.1.2.1 : Int) ∧ (u_108.1.2.1 : Int) ≤ 4) ∧ ((u_108.1.2.1 : Int) ≤ 4 * (u_108.1.2.2.2.1 - u_108.1.2.2.1)) ∧ (-1 ≤ (u_108.1.2.2.2.2 : Int) ∧ (u_108.1.2.2.2.2 : Int) ≤ 100000) from (by first | with_reducible assumption | exact (by first | with_reducible assumption | exact ⟨⟨by omega, by omega⟩, ⟨by omega, by omega⟩, ⟨by omega, by omega⟩, by omega, by omega, by omega⟩))), (show 0 ≤ (Mfs : Int) ∧ (Mfs : Int) ≤ 9 from (by omega)), (show KP f_104 Af from kp_105), (show ((1 : Int) = 1 ∧ ∃ q9 : Int, xLaw (tX Xf Msz) Mlt cu = (xBn (xTs (tX Xf Msz) 59 q9) fun r9 => .inr (r9, gz f_104 3562)) ∧ cu < q9 ∧ RFX (tX Xf Msz) q9 u_108.1.2.2.1 u_108.1.2.2.2.1 u_108.1.2.1 u_108.1.2.2.2.2 ∧ MSX f_104 (gz f_104 3560) (gz f_104 3561) (gz f_104 3562) (gz f_104 3678) F G ∧ (gz f_104 3560 = gz Af 3560 ∧ gz f_104 3561 = gz Af 3561 ∧ gz f_104 3678 = gz Af 3678) ∧ NSZ f_104 ∧ (1 : Int) = 1 ∧ (Mfs : Int) = 0 ∧ Mfp = Mfp) ∨ ((1 : Int) = 0 ∧ xLaw (tX Xf Msz) Mlt cu = .inl (Mfs, Mfp) ∧ 1 ≤ (Mfs : Int)) from (Or.inl ⟨rfl, (xEn (tX Xf Msz) (xEn (tX Xf Msz) cu)), xLaw_2 (by omega) (hlo.trans mm2.symm) (by omega), by omega, rx_112, ⟨rfl, rfl, rfl, rfl, mmF, by rw [mm1]; exact mmG⟩, ⟨by omega, by omega, by omega⟩, ns_106, rfl, by omega, by omega⟩)), (show (1 : Int) = 0 ∨ (1 : Int) = 1 from (by omega)), (show Nf = Nf from rfl)⟩ (hP.sub [2, 3, 0, 1] rfl) (hD.sub [2, 3, 0, 1] rfl rfl) dX12_aLaw_103
              ·
                have c_103 := (zeq (x := iZ u_9.1) (y := iZ 6) rfl rfl ⟨by omega, by omega⟩ wn_6).mp c_103
                refine lv_iconst (v := iZ 2) hx hb dX12_aLaw_92 rfl ?_
                refine lv_goto (tgt := 97) hx hb dX12_aLaw_93 rfl ?_
                refine va_iast hx hb hK hP hD hS 0 1 rfl rfl (zin (e := 3562) (n := 5340) ⟨by omega, by omega⟩ (bl rfl)) dX12_aLaw_97 (fun H locs hP hD hS => ?_)
                obtain ⟨f_114, hf_114⟩ : ∃ gg9, gg9 = upd Af (iZ 3562).toNatClampNeg (iZ 2) := ⟨_, rfl⟩
                rw [← hf_114] at hP hD
                have kp_115 := KP.up hf_114 ⟨by omega, by omega⟩ ⟨by omega, by omega⟩
                have ns_116 := NSZ.far hNZ hf_114 (Or.inr rfl) ⟨by omega, by omega⟩
                have ms_117 := MSX.lw hms hf_114 (by omega) (by omega)
                refine lv_aload_n hx hb dX12_aLaw_98 rfl (lv_at hl 1 rfl) ?_
                refine CWV (As := []) (rest := []) (wc := _) (wr := [(Ma, .inl (k 1, 5340, .inl f_114)), (Mn, .inl (k 2, 36, .inr (.inl Nf)))]) hx hb hml hown hts hKK hP hD hS hA (y_onward l D k hm Ma Mn Ms My Mt Mp Mx Mo Mk Ml Mb Mh Mc Mz Mr Mq Mst Mtd Msz u_3.1.2.1 u_3.1.2.2.1 u_3.1.2.2.2.1 u_3.1.2.2.2.2 Mfk Mfp Mfs Mse 1 Mdp Mct Mdr Mrs Mit Mmk Mtp Mbt Xf ⟨⟨by omega, by omega⟩, by omega⟩) ci_X12_onward qm_X12_158 ⟨Nat.le_of_ble_eq_true rfl, Nat.le_of_ble_eq_true rfl⟩ ⟨Nat.le_of_ble_eq_true rfl, Nat.le_of_ble_eq_true rfl⟩ [2, 3] [0, 1] rfl rfl rfl rfl rfl (dj rfl) 0 rfl rfl rfl hl.1 rfl (Nat.le_of_ble_eq_true rfl) dX12_aLaw_99 (fun u_118 H locs hφ hP hD hS => ?_)
                obtain ⟨p_119, p_120, p_121⟩ : (RFX (tX Xf Msz) u_3.1.2.2.2.1 u_118.1.2.2.1 u_118.1.2.2.2.1 u_118.1.2.1 u_118.1.2.2.2.2) ∧ ((0 ≤ (u_118.1.2.2.1 : Int) ∧ (u_118.1.2.2.1 : Int) ≤ u_118.1.2.2.2.1) ∧ ((u_118.1.2.2.2.1 : Int) ≤ Msz ∧ (Msz : Int) ≤ 900) ∧ (0 ≤ (u_118.1.2.1 : Int) ∧ (u_118.1.2.1 : Int) ≤ 4) ∧ ((u_118.1.2.1 : Int) ≤ 4 * (u_118.1.2.2.2.1 - u_118.1.2.2.1)) ∧ (-1 ≤ (u_118.1.2.2.2.2 : Int) ∧ (u_118.1.2.2.2.2 : Int) ≤ 100000)) ∧ (u_3.1.2.2.2.1 ≤ u_118.1.2.2.1) := hφ
                have rx_122 := RFX.nx rx_7 p_119
                obtain ⟨⟨ar_123, br_123⟩, cr_123, dr_123, er_123, gr_123, hr_123⟩ := id rx_122
                have kr_123 := tk_1 dr_123 (xKd_rg _ _)
                have wr_123 := xKw_rg (tX Xf Msz) (xEn (tX Xf Msz) (xEn (tX Xf Msz) cu))
                replace kr_123 : Unit → _ := fun _ => kr_123
                replace er_123 : Unit → _ := fun _ => er_123
                replace gr_123 : Unit → _ := fun _ => gr_123
                replace hr_123 : Unit → _ := fun _ => hr_123
                refine W.eq (g2 := F0 m 102 ls []) rfl ?_
                refine lv_iconst (v := iZ 1) hx hb dX12_aLaw_102 rfl ?_
                have hlo : xLo (xKw (tX Xf Msz) (xEn (tX Xf Msz) cu)) = 2 := by unfold xLo; rw [if_neg (by omega), if_neg (by omega), if_pos (by omega)]
                obtain ⟨mm0, mm1, mm2, mm3, mmF, mmG⟩ := id ms_117
                exact EWz hx hb hr hlocks hS ((1, u_118.1.2.1, u_118.1.2.2.1, u_118.1.2.2.2.1, u_118.1.2.2.2.2, Mfs, Mfp, 1), 0, f_114, Nf) rfl rfl ⟨(show (0 ≤ (u_118.1.2.2.1 : Int) ∧ (u_118.1.2.2.1 : Int) ≤ u_118.1.2.2.2.1) ∧ ((u_118.1.2.2.2.1 : Int) ≤ Msz ∧ (Msz : Int) ≤ 900) ∧ (0 ≤ (u_118.1.2.1 : Int) ∧ (u_118.1.2.1 : Int) ≤ 4) ∧ ((u_118.1.2.1 : Int) ≤ 4 * (u_118.1.2.2.2.1 - u_118.1.2.2.1)) ∧ (-1 ≤ (u_118.1.2.2.2.2 : Int) ∧ (u_118.1.2.2.2.2 : Int) ≤ 100000) from (by first | with_reducible assumption | exact (by first | with_reducible assumption | exact ⟨⟨by omega, by omega⟩, ⟨by omega, by omega⟩, ⟨by omega, by omega⟩, by omega, by omega, by omega⟩))), (show 0 ≤ (Mfs : Int) ∧ (Mfs : Int) ≤ 9 from (by omega)), (show KP f_114 Af from kp_115), (show ((1 : Int) = 1 ∧ ∃ q9 : Int, xLaw (tX Xf Msz) Mlt cu = (xBn (xTs (tX Xf Msz) 59 q9) fun r9 => .inr (r9, gz f_114 3562)) ∧ cu < q9 ∧ RFX (tX Xf Msz) q9 u_118.1.2.2.1 u_118.1.2.2.2.1 u_118.1.2.1 u_118.1.2.2.2.2 ∧ MSX f_114 (gz f_114 3560) (gz f_114 3561) (gz f_114 3562) (gz f_114 3678) F G ∧ (gz f_114 3560 = gz Af 3560 ∧ gz f_114 3561 = gz Af 3561 ∧ gz f_114 3678 = gz Af 3678) ∧ NSZ f_114 ∧ (1 : Int) = 1 ∧ (Mfs : Int) = 0 ∧ Mfp = Mfp) ∨ ((1 : Int) = 0 ∧ xLaw (tX Xf Msz) Mlt cu = .inl (Mfs, Mfp) ∧ 1 ≤ (Mfs : Int)) from (Or.inl ⟨rfl, (xEn (tX Xf Msz) (xEn (tX Xf Msz) cu)), xLaw_2 (by omega) (hlo.trans mm2.symm) (by omega), by omega, rx_122, ⟨rfl, rfl, rfl, rfl, mmF, by rw [mm1]; exact mmG⟩, ⟨by omega, by omega, by omega⟩, ns_116, rfl, by omega, by omega⟩)), (show (1 : Int) = 0 ∨ (1 : Int) = 1 from (by omega)), (show Nf = Nf from rfl)⟩ (hP.sub [2, 3, 0, 1] rfl) (hD.sub [2, 3, 0, 1] rfl rfl) dX12_aLaw_103
            ·
              have c_102 := (zeq (x := iZ u_9.1) (y := iZ 13) rfl rfl ⟨by omega, by omega⟩ wn_13).mp c_102
              refine lv_iconst (v := iZ 1) hx hb dX12_aLaw_82 rfl ?_
              refine lv_goto (tgt := 97) hx hb dX12_aLaw_83 rfl ?_
              refine va_iast hx hb hK hP hD hS 0 1 rfl rfl (zin (e := 3562) (n := 5340) ⟨by omega, by omega⟩ (bl rfl)) dX12_aLaw_97 (fun H locs hP hD hS => ?_)
              obtain ⟨f_124, hf_124⟩ : ∃ gg9, gg9 = upd Af (iZ 3562).toNatClampNeg (iZ 1) := ⟨_, rfl⟩
              rw [← hf_124] at hP hD
              have kp_125 := KP.up hf_124 ⟨by omega, by omega⟩ ⟨by omega, by omega⟩
              have ns_126 := NSZ.far hNZ hf_124 (Or.inr rfl) ⟨by omega, by omega⟩
              have ms_127 := MSX.lw hms hf_124 (by omega) (by omega)
              refine lv_aload_n hx hb dX12_aLaw_98 rfl (lv_at hl 1 rfl) ?_
              refine CWV (As := []) (rest := []) (wc := _) (wr := [(Ma, .inl (k 1, 5340, .inl f_124)), (Mn, .inl (k 2, 36, .inr (.inl Nf)))]) hx hb hml hown hts hKK hP hD hS hA (y_onward l D k hm Ma Mn Ms My Mt Mp Mx Mo Mk Ml Mb Mh Mc Mz Mr Mq Mst Mtd Msz u_3.1.2.1 u_3.1.2.2.1 u_3.1.2.2.2.1 u_3.1.2.2.2.2 Mfk Mfp Mfs Mse 1 Mdp Mct Mdr Mrs Mit Mmk Mtp Mbt Xf ⟨⟨by omega, by omega⟩, by omega⟩) ci_X12_onward qm_X12_158 ⟨Nat.le_of_ble_eq_true rfl, Nat.le_of_ble_eq_true rfl⟩ ⟨Nat.le_of_ble_eq_true rfl, Nat.le_of_ble_eq_true rfl⟩ [2, 3] [0, 1] rfl rfl rfl rfl rfl (dj rfl) 0 rfl rfl rfl hl.1 rfl (Nat.le_of_ble_eq_true rfl) dX12_aLaw_99 (fun u_128 H locs hφ hP hD hS => ?_)
              obtain ⟨p_129, p_130, p_131⟩ : (RFX (tX Xf Msz) u_3.1.2.2.2.1 u_128.1.2.2.1 u_128.1.2.2.2.1 u_128.1.2.1 u_128.1.2.2.2.2) ∧ ((0 ≤ (u_128.1.2.2.1 : Int) ∧ (u_128.1.2.2.1 : Int) ≤ u_128.1.2.2.2.1) ∧ ((u_128.1.2.2.2.1 : Int) ≤ Msz ∧ (Msz : Int) ≤ 900) ∧ (0 ≤ (u_128.1.2.1 : Int) ∧ (u_128.1.2.1 : Int) ≤ 4) ∧ ((u_128.1.2.1 : Int) ≤ 4 * (u_128.1.2.2.2.1 - u_128.1.2.2.1)) ∧ (-1 ≤ (u_128.1.2.2.2.2 : Int) ∧ (u_128.1.2.2.2.2 : Int) ≤ 100000)) ∧ (u_3.1.2.2.2.1 ≤ u_128.1.2.2.1) := hφ
              have rx_132 := RFX.nx rx_7 p_129
              obtain ⟨⟨ar_133, br_133⟩, cr_133, dr_133, er_133, gr_133, hr_133⟩ := id rx_132
              have kr_133 := tk_1 dr_133 (xKd_rg _ _)
              have wr_133 := xKw_rg (tX Xf Msz) (xEn (tX Xf Msz) (xEn (tX Xf Msz) cu))
              replace kr_133 : Unit → _ := fun _ => kr_133
              replace er_133 : Unit → _ := fun _ => er_133
              replace gr_133 : Unit → _ := fun _ => gr_133
              replace hr_133 : Unit → _ := fun _ => hr_133
              refine W.eq (g2 := F0 m 102 ls []) rfl ?_
              refine lv_iconst (v := iZ 1) hx hb dX12_aLaw_102 rfl ?_
              have hlo : xLo (xKw (tX Xf Msz) (xEn (tX Xf Msz) cu)) = 1 := by unfold xLo; rw [if_neg (by omega), if_pos (by omega)]
              obtain ⟨mm0, mm1, mm2, mm3, mmF, mmG⟩ := id ms_127
              exact EWz hx hb hr hlocks hS ((1, u_128.1.2.1, u_128.1.2.2.1, u_128.1.2.2.2.1, u_128.1.2.2.2.2, Mfs, Mfp, 1), 0, f_124, Nf) rfl rfl ⟨(show (0 ≤ (u_128.1.2.2.1 : Int) ∧ (u_128.1.2.2.1 : Int) ≤ u_128.1.2.2.2.1) ∧ ((u_128.1.2.2.2.1 : Int) ≤ Msz ∧ (Msz : Int) ≤ 900) ∧ (0 ≤ (u_128.1.2.1 : Int) ∧ (u_128.1.2.1 : Int) ≤ 4) ∧ ((u_128.1.2.1 : Int) ≤ 4 * (u_128.1.2.2.2.1 - u_128.1.2.2.1)) ∧ (-1 ≤ (u_128.1.2.2.2.2 : Int) ∧ (u_128.1.2.2.2.2 : Int) ≤ 100000) from (by first | with_reducible assumption | exact (by first | with_reducible assumption | exact ⟨⟨by omega, by omega⟩, ⟨by omega, by omega⟩, ⟨by omega, by omega⟩, by omega, by omega, by omega⟩))), (show 0 ≤ (Mfs : Int) ∧ (Mfs : Int) ≤ 9 from (by omega)), (show KP f_124 Af from kp_125), (show ((1 : Int) = 1 ∧ ∃ q9 : Int, xLaw (tX Xf Msz) Mlt cu = (xBn (xTs (tX Xf Msz) 59 q9) fun r9 => .inr (r9, gz f_124 3562)) ∧ cu < q9 ∧ RFX (tX Xf Msz) q9 u_128.1.2.2.1 u_128.1.2.2.2.1 u_128.1.2.1 u_128.1.2.2.2.2 ∧ MSX f_124 (gz f_124 3560) (gz f_124 3561) (gz f_124 3562) (gz f_124 3678) F G ∧ (gz f_124 3560 = gz Af 3560 ∧ gz f_124 3561 = gz Af 3561 ∧ gz f_124 3678 = gz Af 3678) ∧ NSZ f_124 ∧ (1 : Int) = 1 ∧ (Mfs : Int) = 0 ∧ Mfp = Mfp) ∨ ((1 : Int) = 0 ∧ xLaw (tX Xf Msz) Mlt cu = .inl (Mfs, Mfp) ∧ 1 ≤ (Mfs : Int)) from (Or.inl ⟨rfl, (xEn (tX Xf Msz) (xEn (tX Xf Msz) cu)), xLaw_2 (by omega) (hlo.trans mm2.symm) (by omega), by omega, rx_132, ⟨rfl, rfl, rfl, rfl, mmF, by rw [mm1]; exact mmG⟩, ⟨by omega, by omega, by omega⟩, ns_126, rfl, by omega, by omega⟩)), (show (1 : Int) = 0 ∨ (1 : Int) = 1 from (by omega)), (show Nf = Nf from rfl)⟩ (hP.sub [2, 3, 0, 1] rfl) (hD.sub [2, 3, 0, 1] rfl rfl) dX12_aLaw_103
          ·
            have c_101 := (zeq (x := iZ u_9.1) (y := iZ 12) rfl rfl ⟨by omega, by omega⟩ wn_12).mp c_101
            refine lv_iconst (v := iZ 0) hx hb dX12_aLaw_72 rfl ?_
            refine lv_goto (tgt := 97) hx hb dX12_aLaw_73 rfl ?_
            refine va_iast hx hb hK hP hD hS 0 1 rfl rfl (zin (e := 3562) (n := 5340) ⟨by omega, by omega⟩ (bl rfl)) dX12_aLaw_97 (fun H locs hP hD hS => ?_)
            obtain ⟨f_134, hf_134⟩ : ∃ gg9, gg9 = upd Af (iZ 3562).toNatClampNeg (iZ 0) := ⟨_, rfl⟩
            rw [← hf_134] at hP hD
            have kp_135 := KP.up hf_134 ⟨by omega, by omega⟩ ⟨by omega, by omega⟩
            have ns_136 := NSZ.far hNZ hf_134 (Or.inr rfl) ⟨by omega, by omega⟩
            have ms_137 := MSX.lw hms hf_134 (by omega) (by omega)
            refine lv_aload_n hx hb dX12_aLaw_98 rfl (lv_at hl 1 rfl) ?_
            refine CWV (As := []) (rest := []) (wc := _) (wr := [(Ma, .inl (k 1, 5340, .inl f_134)), (Mn, .inl (k 2, 36, .inr (.inl Nf)))]) hx hb hml hown hts hKK hP hD hS hA (y_onward l D k hm Ma Mn Ms My Mt Mp Mx Mo Mk Ml Mb Mh Mc Mz Mr Mq Mst Mtd Msz u_3.1.2.1 u_3.1.2.2.1 u_3.1.2.2.2.1 u_3.1.2.2.2.2 Mfk Mfp Mfs Mse 1 Mdp Mct Mdr Mrs Mit Mmk Mtp Mbt Xf ⟨⟨by omega, by omega⟩, by omega⟩) ci_X12_onward qm_X12_158 ⟨Nat.le_of_ble_eq_true rfl, Nat.le_of_ble_eq_true rfl⟩ ⟨Nat.le_of_ble_eq_true rfl, Nat.le_of_ble_eq_true rfl⟩ [2, 3] [0, 1] rfl rfl rfl rfl rfl (dj rfl) 0 rfl rfl rfl hl.1 rfl (Nat.le_of_ble_eq_true rfl) dX12_aLaw_99 (fun u_138 H locs hφ hP hD hS => ?_)
            obtain ⟨p_139, p_140, p_141⟩ : (RFX (tX Xf Msz) u_3.1.2.2.2.1 u_138.1.2.2.1 u_138.1.2.2.2.1 u_138.1.2.1 u_138.1.2.2.2.2) ∧ ((0 ≤ (u_138.1.2.2.1 : Int) ∧ (u_138.1.2.2.1 : Int) ≤ u_138.1.2.2.2.1) ∧ ((u_138.1.2.2.2.1 : Int) ≤ Msz ∧ (Msz : Int) ≤ 900) ∧ (0 ≤ (u_138.1.2.1 : Int) ∧ (u_138.1.2.1 : Int) ≤ 4) ∧ ((u_138.1.2.1 : Int) ≤ 4 * (u_138.1.2.2.2.1 - u_138.1.2.2.1)) ∧ (-1 ≤ (u_138.1.2.2.2.2 : Int) ∧ (u_138.1.2.2.2.2 : Int) ≤ 100000)) ∧ (u_3.1.2.2.2.1 ≤ u_138.1.2.2.1) := hφ
            have rx_142 := RFX.nx rx_7 p_139
            obtain ⟨⟨ar_143, br_143⟩, cr_143, dr_143, er_143, gr_143, hr_143⟩ := id rx_142
            have kr_143 := tk_1 dr_143 (xKd_rg _ _)
            have wr_143 := xKw_rg (tX Xf Msz) (xEn (tX Xf Msz) (xEn (tX Xf Msz) cu))
            replace kr_143 : Unit → _ := fun _ => kr_143
            replace er_143 : Unit → _ := fun _ => er_143
            replace gr_143 : Unit → _ := fun _ => gr_143
            replace hr_143 : Unit → _ := fun _ => hr_143
            refine W.eq (g2 := F0 m 102 ls []) rfl ?_
            refine lv_iconst (v := iZ 1) hx hb dX12_aLaw_102 rfl ?_
            have hlo : xLo (xKw (tX Xf Msz) (xEn (tX Xf Msz) cu)) = 0 := by unfold xLo; rw [if_pos (by omega)]
            obtain ⟨mm0, mm1, mm2, mm3, mmF, mmG⟩ := id ms_137
            exact EWz hx hb hr hlocks hS ((1, u_138.1.2.1, u_138.1.2.2.1, u_138.1.2.2.2.1, u_138.1.2.2.2.2, Mfs, Mfp, 1), 0, f_134, Nf) rfl rfl ⟨(show (0 ≤ (u_138.1.2.2.1 : Int) ∧ (u_138.1.2.2.1 : Int) ≤ u_138.1.2.2.2.1) ∧ ((u_138.1.2.2.2.1 : Int) ≤ Msz ∧ (Msz : Int) ≤ 900) ∧ (0 ≤ (u_138.1.2.1 : Int) ∧ (u_138.1.2.1 : Int) ≤ 4) ∧ ((u_138.1.2.1 : Int) ≤ 4 * (u_138.1.2.2.2.1 - u_138.1.2.2.1)) ∧ (-1 ≤ (u_138.1.2.2.2.2 : Int) ∧ (u_138.1.2.2.2.2 : Int) ≤ 100000) from (by first | with_reducible assumption | exact (by first | with_reducible assumption | exact ⟨⟨by omega, by omega⟩, ⟨by omega, by omega⟩, ⟨by omega, by omega⟩, by omega, by omega, by omega⟩))), (show 0 ≤ (Mfs : Int) ∧ (Mfs : Int) ≤ 9 from (by omega)), (show KP f_134 Af from kp_135), (show ((1 : Int) = 1 ∧ ∃ q9 : Int, xLaw (tX Xf Msz) Mlt cu = (xBn (xTs (tX Xf Msz) 59 q9) fun r9 => .inr (r9, gz f_134 3562)) ∧ cu < q9 ∧ RFX (tX Xf Msz) q9 u_138.1.2.2.1 u_138.1.2.2.2.1 u_138.1.2.1 u_138.1.2.2.2.2 ∧ MSX f_134 (gz f_134 3560) (gz f_134 3561) (gz f_134 3562) (gz f_134 3678) F G ∧ (gz f_134 3560 = gz Af 3560 ∧ gz f_134 3561 = gz Af 3561 ∧ gz f_134 3678 = gz Af 3678) ∧ NSZ f_134 ∧ (1 : Int) = 1 ∧ (Mfs : Int) = 0 ∧ Mfp = Mfp) ∨ ((1 : Int) = 0 ∧ xLaw (tX Xf Msz) Mlt cu = .inl (Mfs, Mfp) ∧ 1 ≤ (Mfs : Int)) from (Or.inl ⟨rfl, (xEn (tX Xf Msz) (xEn (tX Xf Msz) cu)), xLaw_2 (by omega) (hlo.trans mm2.symm) (by omega), by omega, rx_142, ⟨rfl, rfl, rfl, rfl, mmF, by rw [mm1]; exact mmG⟩, ⟨by omega, by omega, by omega⟩, ns_136, rfl, by omega, by omega⟩)), (show (1 : Int) = 0 ∨ (1 : Int) = 1 from (by omega)), (show Nf = Nf from rfl)⟩ (hP.sub [2, 3, 0, 1] rfl) (hD.sub [2, 3, 0, 1] rfl rfl) dX12_aLaw_103
        ·
          have c_100 := mt (zeq (x := iZ u_9.1) (y := iZ 6) rfl rfl ⟨by omega, by omega⟩ wn_6).mpr c_100
          refine lv_iload_n hx hb dX12_aLaw_47 rfl (lv_at hl 0 rfl) ?_
          refine lv_bipush (v := iZ 14) hx hb dX12_aLaw_48 bip_14 ?_
          refine lv_icmp_eq (tgt := 59) hx hb dX12_aLaw_50 rfl (fun c_144 => ?_) (fun c_144 => ?_)
          ·
            have c_144 := (zeq (x := iZ u_9.1) (y := iZ 14) rfl rfl ⟨by omega, by omega⟩ wn_14).mp c_144
            refine lv_aload_n hx hb dX12_aLaw_59 rfl (lv_at hl 1 rfl) ?_
            refine va_get (D := D) (ci := 12) (v := .ref Ma) (C := RX12) (T := TX12) (N := 36) hx hb hts iX12 hown hK hP 2 rfl rfl 0 (bl rfl) (hts _ qf_X12_7) (fun _ h => h) rfl dX12_aLaw_60 ?_
            refine lv_sipush (v := iZ 3562) hx hb dX12_aLaw_63 sip_3562 ?_
            refine lv_iload_n hx hb dX12_aLaw_66 rfl (lv_at hl 0 rfl) ?_
            refine lv_bipush (v := iZ 12) hx hb dX12_aLaw_67 bip_12 ?_
            refine lv_icmp_ne (tgt := 76) hx hb dX12_aLaw_69 rfl (fun c_145 => ?_) (fun c_145 => ?_)
            ·
              have c_145 := mt (zeq (x := iZ u_9.1) (y := iZ 12) rfl rfl ⟨by omega, by omega⟩ wn_12).mpr c_145
              refine lv_iload_n hx hb dX12_aLaw_76 rfl (lv_at hl 0 rfl) ?_
              refine lv_bipush (v := iZ 13) hx hb dX12_aLaw_77 bip_13 ?_
              refine lv_icmp_ne (tgt := 86) hx hb dX12_aLaw_79 rfl (fun c_146 => ?_) (fun c_146 => ?_)
              ·
                have c_146 := mt (zeq (x := iZ u_9.1) (y := iZ 13) rfl rfl ⟨by omega, by omega⟩ wn_13).mpr c_146
                refine lv_iload_n hx hb dX12_aLaw_86 rfl (lv_at hl 0 rfl) ?_
                refine lv_bipush (v := iZ 6) hx hb dX12_aLaw_87 bip_6 ?_
                refine lv_icmp_ne (tgt := 96) hx hb dX12_aLaw_89 rfl (fun c_147 => ?_) (fun c_147 => ?_)
                ·
                  have c_147 := mt (zeq (x := iZ u_9.1) (y := iZ 6) rfl rfl ⟨by omega, by omega⟩ wn_6).mpr c_147
                  refine lv_iconst (v := iZ 3) hx hb dX12_aLaw_96 rfl ?_
                  refine va_iast hx hb hK hP hD hS 0 1 rfl rfl (zin (e := 3562) (n := 5340) ⟨by omega, by omega⟩ (bl rfl)) dX12_aLaw_97 (fun H locs hP hD hS => ?_)
                  obtain ⟨f_148, hf_148⟩ : ∃ gg9, gg9 = upd Af (iZ 3562).toNatClampNeg (iZ 3) := ⟨_, rfl⟩
                  rw [← hf_148] at hP hD
                  have kp_149 := KP.up hf_148 ⟨by omega, by omega⟩ ⟨by omega, by omega⟩
                  have ns_150 := NSZ.far hNZ hf_148 (Or.inr rfl) ⟨by omega, by omega⟩
                  have ms_151 := MSX.lw hms hf_148 (by omega) (by omega)
                  refine lv_aload_n hx hb dX12_aLaw_98 rfl (lv_at hl 1 rfl) ?_
                  refine CWV (As := []) (rest := []) (wc := _) (wr := [(Ma, .inl (k 1, 5340, .inl f_148)), (Mn, .inl (k 2, 36, .inr (.inl Nf)))]) hx hb hml hown hts hKK hP hD hS hA (y_onward l D k hm Ma Mn Ms My Mt Mp Mx Mo Mk Ml Mb Mh Mc Mz Mr Mq Mst Mtd Msz u_3.1.2.1 u_3.1.2.2.1 u_3.1.2.2.2.1 u_3.1.2.2.2.2 Mfk Mfp Mfs Mse 1 Mdp Mct Mdr Mrs Mit Mmk Mtp Mbt Xf ⟨⟨by omega, by omega⟩, by omega⟩) ci_X12_onward qm_X12_158 ⟨Nat.le_of_ble_eq_true rfl, Nat.le_of_ble_eq_true rfl⟩ ⟨Nat.le_of_ble_eq_true rfl, Nat.le_of_ble_eq_true rfl⟩ [2, 3] [0, 1] rfl rfl rfl rfl rfl (dj rfl) 0 rfl rfl rfl hl.1 rfl (Nat.le_of_ble_eq_true rfl) dX12_aLaw_99 (fun u_152 H locs hφ hP hD hS => ?_)
                  obtain ⟨p_153, p_154, p_155⟩ : (RFX (tX Xf Msz) u_3.1.2.2.2.1 u_152.1.2.2.1 u_152.1.2.2.2.1 u_152.1.2.1 u_152.1.2.2.2.2) ∧ ((0 ≤ (u_152.1.2.2.1 : Int) ∧ (u_152.1.2.2.1 : Int) ≤ u_152.1.2.2.2.1) ∧ ((u_152.1.2.2.2.1 : Int) ≤ Msz ∧ (Msz : Int) ≤ 900) ∧ (0 ≤ (u_152.1.2.1 : Int) ∧ (u_152.1.2.1 : Int) ≤ 4) ∧ ((u_152.1.2.1 : Int) ≤ 4 * (u_152.1.2.2.2.1 - u_152.1.2.2.1)) ∧ (-1 ≤ (u_152.1.2.2.2.2 : Int) ∧ (u_152.1.2.2.2.2 : Int) ≤ 100000)) ∧ (u_3.1.2.2.2.1 ≤ u_152.1.2.2.1) := hφ
                  have rx_156 := RFX.nx rx_7 p_153
                  obtain ⟨⟨ar_157, br_157⟩, cr_157, dr_157, er_157, gr_157, hr_157⟩ := id rx_156
                  have kr_157 := tk_1 dr_157 (xKd_rg _ _)
                  have wr_157 := xKw_rg (tX Xf Msz) (xEn (tX Xf Msz) (xEn (tX Xf Msz) cu))
                  replace kr_157 : Unit → _ := fun _ => kr_157
                  replace er_157 : Unit → _ := fun _ => er_157
                  replace gr_157 : Unit → _ := fun _ => gr_157
                  replace hr_157 : Unit → _ := fun _ => hr_157
                  refine W.eq (g2 := F0 m 102 ls []) rfl ?_
                  refine lv_iconst (v := iZ 1) hx hb dX12_aLaw_102 rfl ?_
                  have hlo : xLo (xKw (tX Xf Msz) (xEn (tX Xf Msz) cu)) = 3 := by unfold xLo; rw [if_neg (by omega), if_neg (by omega), if_neg (by omega), if_pos (by omega)]
                  obtain ⟨mm0, mm1, mm2, mm3, mmF, mmG⟩ := id ms_151
                  exact EWz hx hb hr hlocks hS ((1, u_152.1.2.1, u_152.1.2.2.1, u_152.1.2.2.2.1, u_152.1.2.2.2.2, Mfs, Mfp, 1), 0, f_148, Nf) rfl rfl ⟨(show (0 ≤ (u_152.1.2.2.1 : Int) ∧ (u_152.1.2.2.1 : Int) ≤ u_152.1.2.2.2.1) ∧ ((u_152.1.2.2.2.1 : Int) ≤ Msz ∧ (Msz : Int) ≤ 900) ∧ (0 ≤ (u_152.1.2.1 : Int) ∧ (u_152.1.2.1 : Int) ≤ 4) ∧ ((u_152.1.2.1 : Int) ≤ 4 * (u_152.1.2.2.2.1 - u_152.1.2.2.1)) ∧ (-1 ≤ (u_152.1.2.2.2.2 : Int) ∧ (u_152.1.2.2.2.2 : Int) ≤ 100000) from (by first | with_reducible assumption | exact (by first | with_reducible assumption | exact ⟨⟨by omega, by omega⟩, ⟨by omega, by omega⟩, ⟨by omega, by omega⟩, by omega, by omega, by omega⟩))), (show 0 ≤ (Mfs : Int) ∧ (Mfs : Int) ≤ 9 from (by omega)), (show KP f_148 Af from kp_149), (show ((1 : Int) = 1 ∧ ∃ q9 : Int, xLaw (tX Xf Msz) Mlt cu = (xBn (xTs (tX Xf Msz) 59 q9) fun r9 => .inr (r9, gz f_148 3562)) ∧ cu < q9 ∧ RFX (tX Xf Msz) q9 u_152.1.2.2.1 u_152.1.2.2.2.1 u_152.1.2.1 u_152.1.2.2.2.2 ∧ MSX f_148 (gz f_148 3560) (gz f_148 3561) (gz f_148 3562) (gz f_148 3678) F G ∧ (gz f_148 3560 = gz Af 3560 ∧ gz f_148 3561 = gz Af 3561 ∧ gz f_148 3678 = gz Af 3678) ∧ NSZ f_148 ∧ (1 : Int) = 1 ∧ (Mfs : Int) = 0 ∧ Mfp = Mfp) ∨ ((1 : Int) = 0 ∧ xLaw (tX Xf Msz) Mlt cu = .inl (Mfs, Mfp) ∧ 1 ≤ (Mfs : Int)) from (Or.inl ⟨rfl, (xEn (tX Xf Msz) (xEn (tX Xf Msz) cu)), xLaw_2 (by omega) (hlo.trans mm2.symm) (by omega), by omega, rx_156, ⟨rfl, rfl, rfl, rfl, mmF, by rw [mm1]; exact mmG⟩, ⟨by omega, by omega, by omega⟩, ns_150, rfl, by omega, by omega⟩)), (show (1 : Int) = 0 ∨ (1 : Int) = 1 from (by omega)), (show Nf = Nf from rfl)⟩ (hP.sub [2, 3, 0, 1] rfl) (hD.sub [2, 3, 0, 1] rfl rfl) dX12_aLaw_103
                ·
                  have c_147 := (zeq (x := iZ u_9.1) (y := iZ 6) rfl rfl ⟨by omega, by omega⟩ wn_6).mp c_147
                  refine lv_iconst (v := iZ 2) hx hb dX12_aLaw_92 rfl ?_
                  refine lv_goto (tgt := 97) hx hb dX12_aLaw_93 rfl ?_
                  refine va_iast hx hb hK hP hD hS 0 1 rfl rfl (zin (e := 3562) (n := 5340) ⟨by omega, by omega⟩ (bl rfl)) dX12_aLaw_97 (fun H locs hP hD hS => ?_)
                  obtain ⟨f_158, hf_158⟩ : ∃ gg9, gg9 = upd Af (iZ 3562).toNatClampNeg (iZ 2) := ⟨_, rfl⟩
                  rw [← hf_158] at hP hD
                  have kp_159 := KP.up hf_158 ⟨by omega, by omega⟩ ⟨by omega, by omega⟩
                  have ns_160 := NSZ.far hNZ hf_158 (Or.inr rfl) ⟨by omega, by omega⟩
                  have ms_161 := MSX.lw hms hf_158 (by omega) (by omega)
                  refine lv_aload_n hx hb dX12_aLaw_98 rfl (lv_at hl 1 rfl) ?_
                  refine CWV (As := []) (rest := []) (wc := _) (wr := [(Ma, .inl (k 1, 5340, .inl f_158)), (Mn, .inl (k 2, 36, .inr (.inl Nf)))]) hx hb hml hown hts hKK hP hD hS hA (y_onward l D k hm Ma Mn Ms My Mt Mp Mx Mo Mk Ml Mb Mh Mc Mz Mr Mq Mst Mtd Msz u_3.1.2.1 u_3.1.2.2.1 u_3.1.2.2.2.1 u_3.1.2.2.2.2 Mfk Mfp Mfs Mse 1 Mdp Mct Mdr Mrs Mit Mmk Mtp Mbt Xf ⟨⟨by omega, by omega⟩, by omega⟩) ci_X12_onward qm_X12_158 ⟨Nat.le_of_ble_eq_true rfl, Nat.le_of_ble_eq_true rfl⟩ ⟨Nat.le_of_ble_eq_true rfl, Nat.le_of_ble_eq_true rfl⟩ [2, 3] [0, 1] rfl rfl rfl rfl rfl (dj rfl) 0 rfl rfl rfl hl.1 rfl (Nat.le_of_ble_eq_true rfl) dX12_aLaw_99 (fun u_162 H locs hφ hP hD hS => ?_)
                  obtain ⟨p_163, p_164, p_165⟩ : (RFX (tX Xf Msz) u_3.1.2.2.2.1 u_162.1.2.2.1 u_162.1.2.2.2.1 u_162.1.2.1 u_162.1.2.2.2.2) ∧ ((0 ≤ (u_162.1.2.2.1 : Int) ∧ (u_162.1.2.2.1 : Int) ≤ u_162.1.2.2.2.1) ∧ ((u_162.1.2.2.2.1 : Int) ≤ Msz ∧ (Msz : Int) ≤ 900) ∧ (0 ≤ (u_162.1.2.1 : Int) ∧ (u_162.1.2.1 : Int) ≤ 4) ∧ ((u_162.1.2.1 : Int) ≤ 4 * (u_162.1.2.2.2.1 - u_162.1.2.2.1)) ∧ (-1 ≤ (u_162.1.2.2.2.2 : Int) ∧ (u_162.1.2.2.2.2 : Int) ≤ 100000)) ∧ (u_3.1.2.2.2.1 ≤ u_162.1.2.2.1) := hφ
                  have rx_166 := RFX.nx rx_7 p_163
                  obtain ⟨⟨ar_167, br_167⟩, cr_167, dr_167, er_167, gr_167, hr_167⟩ := id rx_166
                  have kr_167 := tk_1 dr_167 (xKd_rg _ _)
                  have wr_167 := xKw_rg (tX Xf Msz) (xEn (tX Xf Msz) (xEn (tX Xf Msz) cu))
                  replace kr_167 : Unit → _ := fun _ => kr_167
                  replace er_167 : Unit → _ := fun _ => er_167
                  replace gr_167 : Unit → _ := fun _ => gr_167
                  replace hr_167 : Unit → _ := fun _ => hr_167
                  refine W.eq (g2 := F0 m 102 ls []) rfl ?_
                  refine lv_iconst (v := iZ 1) hx hb dX12_aLaw_102 rfl ?_
                  have hlo : xLo (xKw (tX Xf Msz) (xEn (tX Xf Msz) cu)) = 2 := by unfold xLo; rw [if_neg (by omega), if_neg (by omega), if_pos (by omega)]
                  obtain ⟨mm0, mm1, mm2, mm3, mmF, mmG⟩ := id ms_161
                  exact EWz hx hb hr hlocks hS ((1, u_162.1.2.1, u_162.1.2.2.1, u_162.1.2.2.2.1, u_162.1.2.2.2.2, Mfs, Mfp, 1), 0, f_158, Nf) rfl rfl ⟨(show (0 ≤ (u_162.1.2.2.1 : Int) ∧ (u_162.1.2.2.1 : Int) ≤ u_162.1.2.2.2.1) ∧ ((u_162.1.2.2.2.1 : Int) ≤ Msz ∧ (Msz : Int) ≤ 900) ∧ (0 ≤ (u_162.1.2.1 : Int) ∧ (u_162.1.2.1 : Int) ≤ 4) ∧ ((u_162.1.2.1 : Int) ≤ 4 * (u_162.1.2.2.2.1 - u_162.1.2.2.1)) ∧ (-1 ≤ (u_162.1.2.2.2.2 : Int) ∧ (u_162.1.2.2.2.2 : Int) ≤ 100000) from (by first | with_reducible assumption | exact (by first | with_reducible assumption | exact ⟨⟨by omega, by omega⟩, ⟨by omega, by omega⟩, ⟨by omega, by omega⟩, by omega, by omega, by omega⟩))), (show 0 ≤ (Mfs : Int) ∧ (Mfs : Int) ≤ 9 from (by omega)), (show KP f_158 Af from kp_159), (show ((1 : Int) = 1 ∧ ∃ q9 : Int, xLaw (tX Xf Msz) Mlt cu = (xBn (xTs (tX Xf Msz) 59 q9) fun r9 => .inr (r9, gz f_158 3562)) ∧ cu < q9 ∧ RFX (tX Xf Msz) q9 u_162.1.2.2.1 u_162.1.2.2.2.1 u_162.1.2.1 u_162.1.2.2.2.2 ∧ MSX f_158 (gz f_158 3560) (gz f_158 3561) (gz f_158 3562) (gz f_158 3678) F G ∧ (gz f_158 3560 = gz Af 3560 ∧ gz f_158 3561 = gz Af 3561 ∧ gz f_158 3678 = gz Af 3678) ∧ NSZ f_158 ∧ (1 : Int) = 1 ∧ (Mfs : Int) = 0 ∧ Mfp = Mfp) ∨ ((1 : Int) = 0 ∧ xLaw (tX Xf Msz) Mlt cu = .inl (Mfs, Mfp) ∧ 1 ≤ (Mfs : Int)) from (Or.inl ⟨rfl, (xEn (tX Xf Msz) (xEn (tX Xf Msz) cu)), xLaw_2 (by omega) (hlo.trans mm2.symm) (by omega), by omega, rx_166, ⟨rfl, rfl, rfl, rfl, mmF, by rw [mm1]; exact mmG⟩, ⟨by omega, by omega, by omega⟩, ns_160, rfl, by omega, by omega⟩)), (show (1 : Int) = 0 ∨ (1 : Int) = 1 from (by omega)), (show Nf = Nf from rfl)⟩ (hP.sub [2, 3, 0, 1] rfl) (hD.sub [2, 3, 0, 1] rfl rfl) dX12_aLaw_103
              ·
                have c_146 := (zeq (x := iZ u_9.1) (y := iZ 13) rfl rfl ⟨by omega, by omega⟩ wn_13).mp c_146
                refine lv_iconst (v := iZ 1) hx hb dX12_aLaw_82 rfl ?_
                refine lv_goto (tgt := 97) hx hb dX12_aLaw_83 rfl ?_
                refine va_iast hx hb hK hP hD hS 0 1 rfl rfl (zin (e := 3562) (n := 5340) ⟨by omega, by omega⟩ (bl rfl)) dX12_aLaw_97 (fun H locs hP hD hS => ?_)
                obtain ⟨f_168, hf_168⟩ : ∃ gg9, gg9 = upd Af (iZ 3562).toNatClampNeg (iZ 1) := ⟨_, rfl⟩
                rw [← hf_168] at hP hD
                have kp_169 := KP.up hf_168 ⟨by omega, by omega⟩ ⟨by omega, by omega⟩
                have ns_170 := NSZ.far hNZ hf_168 (Or.inr rfl) ⟨by omega, by omega⟩
                have ms_171 := MSX.lw hms hf_168 (by omega) (by omega)
                refine lv_aload_n hx hb dX12_aLaw_98 rfl (lv_at hl 1 rfl) ?_
                refine CWV (As := []) (rest := []) (wc := _) (wr := [(Ma, .inl (k 1, 5340, .inl f_168)), (Mn, .inl (k 2, 36, .inr (.inl Nf)))]) hx hb hml hown hts hKK hP hD hS hA (y_onward l D k hm Ma Mn Ms My Mt Mp Mx Mo Mk Ml Mb Mh Mc Mz Mr Mq Mst Mtd Msz u_3.1.2.1 u_3.1.2.2.1 u_3.1.2.2.2.1 u_3.1.2.2.2.2 Mfk Mfp Mfs Mse 1 Mdp Mct Mdr Mrs Mit Mmk Mtp Mbt Xf ⟨⟨by omega, by omega⟩, by omega⟩) ci_X12_onward qm_X12_158 ⟨Nat.le_of_ble_eq_true rfl, Nat.le_of_ble_eq_true rfl⟩ ⟨Nat.le_of_ble_eq_true rfl, Nat.le_of_ble_eq_true rfl⟩ [2, 3] [0, 1] rfl rfl rfl rfl rfl (dj rfl) 0 rfl rfl rfl hl.1 rfl (Nat.le_of_ble_eq_true rfl) dX12_aLaw_99 (fun u_172 H locs hφ hP hD hS => ?_)
                obtain ⟨p_173, p_174, p_175⟩ : (RFX (tX Xf Msz) u_3.1.2.2.2.1 u_172.1.2.2.1 u_172.1.2.2.2.1 u_172.1.2.1 u_172.1.2.2.2.2) ∧ ((0 ≤ (u_172.1.2.2.1 : Int) ∧ (u_172.1.2.2.1 : Int) ≤ u_172.1.2.2.2.1) ∧ ((u_172.1.2.2.2.1 : Int) ≤ Msz ∧ (Msz : Int) ≤ 900) ∧ (0 ≤ (u_172.1.2.1 : Int) ∧ (u_172.1.2.1 : Int) ≤ 4) ∧ ((u_172.1.2.1 : Int) ≤ 4 * (u_172.1.2.2.2.1 - u_172.1.2.2.1)) ∧ (-1 ≤ (u_172.1.2.2.2.2 : Int) ∧ (u_172.1.2.2.2.2 : Int) ≤ 100000)) ∧ (u_3.1.2.2.2.1 ≤ u_172.1.2.2.1) := hφ
                have rx_176 := RFX.nx rx_7 p_173
                obtain ⟨⟨ar_177, br_177⟩, cr_177, dr_177, er_177, gr_177, hr_177⟩ := id rx_176
                have kr_177 := tk_1 dr_177 (xKd_rg _ _)
                have wr_177 := xKw_rg (tX Xf Msz) (xEn (tX Xf Msz) (xEn (tX Xf Msz) cu))
                replace kr_177 : Unit → _ := fun _ => kr_177
                replace er_177 : Unit → _ := fun _ => er_177
                replace gr_177 : Unit → _ := fun _ => gr_177
                replace hr_177 : Unit → _ := fun _ => hr_177
                refine W.eq (g2 := F0 m 102 ls []) rfl ?_
                refine lv_iconst (v := iZ 1) hx hb dX12_aLaw_102 rfl ?_
                have hlo : xLo (xKw (tX Xf Msz) (xEn (tX Xf Msz) cu)) = 1 := by unfold xLo; rw [if_neg (by omega), if_pos (by omega)]
                obtain ⟨mm0, mm1, mm2, mm3, mmF, mmG⟩ := id ms_171
                exact EWz hx hb hr hlocks hS ((1, u_172.1.2.1, u_172.1.2.2.1, u_172.1.2.2.2.1, u_172.1.2.2.2.2, Mfs, Mfp, 1), 0, f_168, Nf) rfl rfl ⟨(show (0 ≤ (u_172.1.2.2.1 : Int) ∧ (u_172.1.2.2.1 : Int) ≤ u_172.1.2.2.2.1) ∧ ((u_172.1.2.2.2.1 : Int) ≤ Msz ∧ (Msz : Int) ≤ 900) ∧ (0 ≤ (u_172.1.2.1 : Int) ∧ (u_172.1.2.1 : Int) ≤ 4) ∧ ((u_172.1.2.1 : Int) ≤ 4 * (u_172.1.2.2.2.1 - u_172.1.2.2.1)) ∧ (-1 ≤ (u_172.1.2.2.2.2 : Int) ∧ (u_172.1.2.2.2.2 : Int) ≤ 100000) from (by first | with_reducible assumption | exact (by first | with_reducible assumption | exact ⟨⟨by omega, by omega⟩, ⟨by omega, by omega⟩, ⟨by omega, by omega⟩, by omega, by omega, by omega⟩))), (show 0 ≤ (Mfs : Int) ∧ (Mfs : Int) ≤ 9 from (by omega)), (show KP f_168 Af from kp_169), (show ((1 : Int) = 1 ∧ ∃ q9 : Int, xLaw (tX Xf Msz) Mlt cu = (xBn (xTs (tX Xf Msz) 59 q9) fun r9 => .inr (r9, gz f_168 3562)) ∧ cu < q9 ∧ RFX (tX Xf Msz) q9 u_172.1.2.2.1 u_172.1.2.2.2.1 u_172.1.2.1 u_172.1.2.2.2.2 ∧ MSX f_168 (gz f_168 3560) (gz f_168 3561) (gz f_168 3562) (gz f_168 3678) F G ∧ (gz f_168 3560 = gz Af 3560 ∧ gz f_168 3561 = gz Af 3561 ∧ gz f_168 3678 = gz Af 3678) ∧ NSZ f_168 ∧ (1 : Int) = 1 ∧ (Mfs : Int) = 0 ∧ Mfp = Mfp) ∨ ((1 : Int) = 0 ∧ xLaw (tX Xf Msz) Mlt cu = .inl (Mfs, Mfp) ∧ 1 ≤ (Mfs : Int)) from (Or.inl ⟨rfl, (xEn (tX Xf Msz) (xEn (tX Xf Msz) cu)), xLaw_2 (by omega) (hlo.trans mm2.symm) (by omega), by omega, rx_176, ⟨rfl, rfl, rfl, rfl, mmF, by rw [mm1]; exact mmG⟩, ⟨by omega, by omega, by omega⟩, ns_170, rfl, by omega, by omega⟩)), (show (1 : Int) = 0 ∨ (1 : Int) = 1 from (by omega)), (show Nf = Nf from rfl)⟩ (hP.sub [2, 3, 0, 1] rfl) (hD.sub [2, 3, 0, 1] rfl rfl) dX12_aLaw_103
            ·
              have c_145 := (zeq (x := iZ u_9.1) (y := iZ 12) rfl rfl ⟨by omega, by omega⟩ wn_12).mp c_145
              refine lv_iconst (v := iZ 0) hx hb dX12_aLaw_72 rfl ?_
              refine lv_goto (tgt := 97) hx hb dX12_aLaw_73 rfl ?_
              refine va_iast hx hb hK hP hD hS 0 1 rfl rfl (zin (e := 3562) (n := 5340) ⟨by omega, by omega⟩ (bl rfl)) dX12_aLaw_97 (fun H locs hP hD hS => ?_)
              obtain ⟨f_178, hf_178⟩ : ∃ gg9, gg9 = upd Af (iZ 3562).toNatClampNeg (iZ 0) := ⟨_, rfl⟩
              rw [← hf_178] at hP hD
              have kp_179 := KP.up hf_178 ⟨by omega, by omega⟩ ⟨by omega, by omega⟩
              have ns_180 := NSZ.far hNZ hf_178 (Or.inr rfl) ⟨by omega, by omega⟩
              have ms_181 := MSX.lw hms hf_178 (by omega) (by omega)
              refine lv_aload_n hx hb dX12_aLaw_98 rfl (lv_at hl 1 rfl) ?_
              refine CWV (As := []) (rest := []) (wc := _) (wr := [(Ma, .inl (k 1, 5340, .inl f_178)), (Mn, .inl (k 2, 36, .inr (.inl Nf)))]) hx hb hml hown hts hKK hP hD hS hA (y_onward l D k hm Ma Mn Ms My Mt Mp Mx Mo Mk Ml Mb Mh Mc Mz Mr Mq Mst Mtd Msz u_3.1.2.1 u_3.1.2.2.1 u_3.1.2.2.2.1 u_3.1.2.2.2.2 Mfk Mfp Mfs Mse 1 Mdp Mct Mdr Mrs Mit Mmk Mtp Mbt Xf ⟨⟨by omega, by omega⟩, by omega⟩) ci_X12_onward qm_X12_158 ⟨Nat.le_of_ble_eq_true rfl, Nat.le_of_ble_eq_true rfl⟩ ⟨Nat.le_of_ble_eq_true rfl, Nat.le_of_ble_eq_true rfl⟩ [2, 3] [0, 1] rfl rfl rfl rfl rfl (dj rfl) 0 rfl rfl rfl hl.1 rfl (Nat.le_of_ble_eq_true rfl) dX12_aLaw_99 (fun u_182 H locs hφ hP hD hS => ?_)
              obtain ⟨p_183, p_184, p_185⟩ : (RFX (tX Xf Msz) u_3.1.2.2.2.1 u_182.1.2.2.1 u_182.1.2.2.2.1 u_182.1.2.1 u_182.1.2.2.2.2) ∧ ((0 ≤ (u_182.1.2.2.1 : Int) ∧ (u_182.1.2.2.1 : Int) ≤ u_182.1.2.2.2.1) ∧ ((u_182.1.2.2.2.1 : Int) ≤ Msz ∧ (Msz : Int) ≤ 900) ∧ (0 ≤ (u_182.1.2.1 : Int) ∧ (u_182.1.2.1 : Int) ≤ 4) ∧ ((u_182.1.2.1 : Int) ≤ 4 * (u_182.1.2.2.2.1 - u_182.1.2.2.1)) ∧ (-1 ≤ (u_182.1.2.2.2.2 : Int) ∧ (u_182.1.2.2.2.2 : Int) ≤ 100000)) ∧ (u_3.1.2.2.2.1 ≤ u_182.1.2.2.1) := hφ
              have rx_186 := RFX.nx rx_7 p_183
              obtain ⟨⟨ar_187, br_187⟩, cr_187, dr_187, er_187, gr_187, hr_187⟩ := id rx_186
              have kr_187 := tk_1 dr_187 (xKd_rg _ _)
              have wr_187 := xKw_rg (tX Xf Msz) (xEn (tX Xf Msz) (xEn (tX Xf Msz) cu))
              replace kr_187 : Unit → _ := fun _ => kr_187
              replace er_187 : Unit → _ := fun _ => er_187
              replace gr_187 : Unit → _ := fun _ => gr_187
              replace hr_187 : Unit → _ := fun _ => hr_187
              refine W.eq (g2 := F0 m 102 ls []) rfl ?_
              refine lv_iconst (v := iZ 1) hx hb dX12_aLaw_102 rfl ?_
              have hlo : xLo (xKw (tX Xf Msz) (xEn (tX Xf Msz) cu)) = 0 := by unfold xLo; rw [if_pos (by omega)]
              obtain ⟨mm0, mm1, mm2, mm3, mmF, mmG⟩ := id ms_181
              exact EWz hx hb hr hlocks hS ((1, u_182.1.2.1, u_182.1.2.2.1, u_182.1.2.2.2.1, u_182.1.2.2.2.2, Mfs, Mfp, 1), 0, f_178, Nf) rfl rfl ⟨(show (0 ≤ (u_182.1.2.2.1 : Int) ∧ (u_182.1.2.2.1 : Int) ≤ u_182.1.2.2.2.1) ∧ ((u_182.1.2.2.2.1 : Int) ≤ Msz ∧ (Msz : Int) ≤ 900) ∧ (0 ≤ (u_182.1.2.1 : Int) ∧ (u_182.1.2.1 : Int) ≤ 4) ∧ ((u_182.1.2.1 : Int) ≤ 4 * (u_182.1.2.2.2.1 - u_182.1.2.2.1)) ∧ (-1 ≤ (u_182.1.2.2.2.2 : Int) ∧ (u_182.1.2.2.2.2 : Int) ≤ 100000) from (by first | with_reducible assumption | exact (by first | with_reducible assumption | exact ⟨⟨by omega, by omega⟩, ⟨by omega, by omega⟩, ⟨by omega, by omega⟩, by omega, by omega, by omega⟩))), (show 0 ≤ (Mfs : Int) ∧ (Mfs : Int) ≤ 9 from (by omega)), (show KP f_178 Af from kp_179), (show ((1 : Int) = 1 ∧ ∃ q9 : Int, xLaw (tX Xf Msz) Mlt cu = (xBn (xTs (tX Xf Msz) 59 q9) fun r9 => .inr (r9, gz f_178 3562)) ∧ cu < q9 ∧ RFX (tX Xf Msz) q9 u_182.1.2.2.1 u_182.1.2.2.2.1 u_182.1.2.1 u_182.1.2.2.2.2 ∧ MSX f_178 (gz f_178 3560) (gz f_178 3561) (gz f_178 3562) (gz f_178 3678) F G ∧ (gz f_178 3560 = gz Af 3560 ∧ gz f_178 3561 = gz Af 3561 ∧ gz f_178 3678 = gz Af 3678) ∧ NSZ f_178 ∧ (1 : Int) = 1 ∧ (Mfs : Int) = 0 ∧ Mfp = Mfp) ∨ ((1 : Int) = 0 ∧ xLaw (tX Xf Msz) Mlt cu = .inl (Mfs, Mfp) ∧ 1 ≤ (Mfs : Int)) from (Or.inl ⟨rfl, (xEn (tX Xf Msz) (xEn (tX Xf Msz) cu)), xLaw_2 (by omega) (hlo.trans mm2.symm) (by omega), by omega, rx_186, ⟨rfl, rfl, rfl, rfl, mmF, by rw [mm1]; exact mmG⟩, ⟨by omega, by omega, by omega⟩, ns_180, rfl, by omega, by omega⟩)), (show (1 : Int) = 0 ∨ (1 : Int) = 1 from (by omega)), (show Nf = Nf from rfl)⟩ (hP.sub [2, 3, 0, 1] rfl) (hD.sub [2, 3, 0, 1] rfl rfl) dX12_aLaw_103
          ·
            have c_144 := mt (zeq (x := iZ u_9.1) (y := iZ 14) rfl rfl ⟨by omega, by omega⟩ wn_14).mpr c_144
            refine lv_aload_n hx hb dX12_aLaw_53 rfl (lv_at hl 1 rfl) ?_
            refine lv_iconst (v := iZ 2) hx hb dX12_aLaw_54 rfl ?_
            refine CWV (As := [.int (iZ 2)]) (rest := []) (wc := _) (wr := [(Ma, .inl (k 1, 5340, .inl Af)), (Mn, .inl (k 2, 36, .inr (.inl Nf)))]) hx hb hml hown hts hKK hP hD hS hA (y_fails l D k hm Ma Mn Ms My Mt Mp Mx Mo Mk Ml Mb Mh Mc Mz Mr Mq Mst Mtd Msz u_3.1.2.1 u_3.1.2.2.1 u_3.1.2.2.2.1 u_3.1.2.2.2.2 Mfk Mfp Mfs Mse 1 Mdp Mct Mdr Mrs Mit Mmk Mtp Mbt Xf 2 (xEn (tX Xf Msz) cu) ⟨by omega, by omega⟩ (by omega) rx_7) ci_X12_fails qm_X12_164 ⟨Nat.le_of_ble_eq_true rfl, Nat.le_of_ble_eq_true rfl⟩ ⟨Nat.le_of_ble_eq_true rfl, Nat.le_of_ble_eq_true rfl⟩ [2, 3] [0, 1] rfl rfl rfl rfl rfl (dj rfl) 0 rfl rfl rfl hl.1 rfl (Nat.le_of_ble_eq_true rfl) dX12_aLaw_55 (fun u_188 H locs hφ hP hD hS => ?_)
            obtain ⟨p_189, p_190⟩ : (u_188.1.2.1 = xFl (tX Xf Msz) (xEn (tX Xf Msz) cu) 2 ∧ u_188.1.2.2 = xPl (tX Xf Msz) (xEn (tX Xf Msz) cu)) ∧ (1 ≤ (u_188.1.2.1 : Int) ∧ (u_188.1.2.1 : Int) ≤ 9) := hφ
            refine W.eq (g2 := F0 m 58 ls [.int (iZ 0)]) rfl ?_
            have hlo : xLo (xKw (tX Xf Msz) (xEn (tX Xf Msz) cu)) = -1 := by unfold xLo; rw [if_neg (by omega), if_neg (by omega), if_neg (by omega), if_neg (by omega)]
            exact EWz hx hb hr hlocks hS ((0, u_3.1.2.1, u_3.1.2.2.1, u_3.1.2.2.2.1, u_3.1.2.2.2.2, u_188.1.2.1, u_188.1.2.2, 1), 0, Af, Nf) rfl rfl ⟨(show (0 ≤ (u_3.1.2.2.1 : Int) ∧ (u_3.1.2.2.1 : Int) ≤ u_3.1.2.2.2.1) ∧ ((u_3.1.2.2.2.1 : Int) ≤ Msz ∧ (Msz : Int) ≤ 900) ∧ (0 ≤ (u_3.1.2.1 : Int) ∧ (u_3.1.2.1 : Int) ≤ 4) ∧ ((u_3.1.2.1 : Int) ≤ 4 * (u_3.1.2.2.2.1 - u_3.1.2.2.1)) ∧ (-1 ≤ (u_3.1.2.2.2.2 : Int) ∧ (u_3.1.2.2.2.2 : Int) ≤ 100000) from (by first | with_reducible assumption | exact (by first | with_reducible assumption | exact ⟨⟨by omega, by omega⟩, ⟨by omega, by omega⟩, ⟨by omega, by omega⟩, by omega, by omega, by omega⟩))), (show 0 ≤ (u_188.1.2.1 : Int) ∧ (u_188.1.2.1 : Int) ≤ 9 from (by omega)), (show KP Af Af from (KP.rf Af)), (show ((0 : Int) = 1 ∧ ∃ q9 : Int, xLaw (tX Xf Msz) Mlt cu = (xBn (xTs (tX Xf Msz) 59 q9) fun r9 => .inr (r9, gz Af 3562)) ∧ cu < q9 ∧ RFX (tX Xf Msz) q9 u_3.1.2.2.1 u_3.1.2.2.2.1 u_3.1.2.1 u_3.1.2.2.2.2 ∧ MSX Af (gz Af 3560) (gz Af 3561) (gz Af 3562) (gz Af 3678) F G ∧ (gz Af 3560 = gz Af 3560 ∧ gz Af 3561 = gz Af 3561 ∧ gz Af 3678 = gz Af 3678) ∧ NSZ Af ∧ (1 : Int) = 1 ∧ (u_188.1.2.1 : Int) = 0 ∧ u_188.1.2.2 = Mfp) ∨ ((0 : Int) = 0 ∧ xLaw (tX Xf Msz) Mlt cu = .inl (u_188.1.2.1, u_188.1.2.2) ∧ 1 ≤ (u_188.1.2.1 : Int)) from (Or.inr ⟨rfl, by unfold xLaw xEr; rw [if_neg (show ¬ Mlt = 1 from (by omega)), if_pos hlo, p_189.1, p_189.2], by omega⟩)), (show (1 : Int) = 0 ∨ (1 : Int) = 1 from (by omega)), (show Nf = Nf from rfl)⟩ (hP.sub [2, 3, 0, 1] rfl) (hD.sub [2, 3, 0, 1] rfl rfl) dX12_aLaw_58
  ·
    have c_2 := mt (zeq (x := iZ Mlt) (y := iZ 0) rfl rfl ⟨by omega, by omega⟩ wn_0).mpr c_2
    refine lv_aload_n hx hb dX12_aLaw_7 rfl (lv_at hl 0 rfl) ?_
    refine lv_iconst (v := iZ 5) hx hb dX12_aLaw_8 rfl ?_
    refine CWV (As := [.int (iZ 5)]) (rest := []) (wc := _) (wr := [(Ma, .inl (k 1, 5340, .inl Af)), (Mn, .inl (k 2, 36, .inr (.inl Nf)))]) hx hb hml hown hts hKK hP hD hS hA (y_fails l D k hm Ma Mn Ms My Mt Mp Mx Mo Mk Ml Mb Mh Mc Mz Mr Mq Mst Mtd Msz Mtk Mfr Men Mva Mfk Mfp Mfs Mse Mlt Mdp Mct Mdr Mrs Mit Mmk Mtp Mbt Xf 5 cu ⟨by omega, by omega⟩ (by omega) hrf) ci_X12_fails qm_X12_164 ⟨Nat.le_of_ble_eq_true rfl, Nat.le_of_ble_eq_true rfl⟩ ⟨Nat.le_of_ble_eq_true rfl, Nat.le_of_ble_eq_true rfl⟩ [0, 1] [2, 3] rfl rfl rfl rfl rfl (dj rfl) 0 rfl rfl rfl hl.1 rfl (Nat.le_of_ble_eq_true rfl) dX12_aLaw_9 (fun u_191 H locs hφ hP hD hS => ?_)
    obtain ⟨p_192, p_193⟩ : (u_191.1.2.1 = xFl (tX Xf Msz) cu 5 ∧ u_191.1.2.2 = xPl (tX Xf Msz) cu) ∧ (1 ≤ (u_191.1.2.1 : Int) ∧ (u_191.1.2.1 : Int) ≤ 9) := hφ
    refine W.eq (g2 := F0 m 12 ls [.int (iZ 0)]) rfl ?_
    exact EWz hx hb hr hlocks hS ((0, Mtk, Mfr, Men, Mva, u_191.1.2.1, u_191.1.2.2, Mlt), 0, Af, Nf) rfl rfl ⟨(show (0 ≤ (Mfr : Int) ∧ (Mfr : Int) ≤ Men) ∧ ((Men : Int) ≤ Msz ∧ (Msz : Int) ≤ 900) ∧ (0 ≤ (Mtk : Int) ∧ (Mtk : Int) ≤ 4) ∧ ((Mtk : Int) ≤ 4 * (Men - Mfr)) ∧ (-1 ≤ (Mva : Int) ∧ (Mva : Int) ≤ 100000) from (by first | with_reducible assumption | exact (by first | with_reducible assumption | exact ⟨⟨by omega, by omega⟩, ⟨by omega, by omega⟩, ⟨by omega, by omega⟩, by omega, by omega, by omega⟩))), (show 0 ≤ (u_191.1.2.1 : Int) ∧ (u_191.1.2.1 : Int) ≤ 9 from (by omega)), (show KP Af Af from (KP.rf Af)), (show ((0 : Int) = 1 ∧ ∃ q9 : Int, xLaw (tX Xf Msz) Mlt cu = (xBn (xTs (tX Xf Msz) 59 q9) fun r9 => .inr (r9, gz Af 3562)) ∧ cu < q9 ∧ RFX (tX Xf Msz) q9 Mfr Men Mtk Mva ∧ MSX Af (gz Af 3560) (gz Af 3561) (gz Af 3562) (gz Af 3678) F G ∧ (gz Af 3560 = gz Af 3560 ∧ gz Af 3561 = gz Af 3561 ∧ gz Af 3678 = gz Af 3678) ∧ NSZ Af ∧ (Mlt : Int) = 1 ∧ (u_191.1.2.1 : Int) = 0 ∧ u_191.1.2.2 = Mfp) ∨ ((0 : Int) = 0 ∧ xLaw (tX Xf Msz) Mlt cu = .inl (u_191.1.2.1, u_191.1.2.2) ∧ 1 ≤ (u_191.1.2.1 : Int)) from (Or.inr ⟨rfl, by unfold xLaw xEr; rw [if_pos (by omega), p_192.1, p_192.2], by omega⟩)), (show (Mlt : Int) = 0 ∨ (Mlt : Int) = 1 from (by omega)), (show Nf = Nf from rfl)⟩ (hP.sub [2, 3, 0, 1] rfl) (hD.sub [2, 3, 0, 1] rfl rfl) dX12_aLaw_12
end
