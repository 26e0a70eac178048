set_option maxHeartbeats 4000000 in
set_option maxRecDepth 100000 in
theorem y_byteAt (l : Launch) (D : va_G) (k : Nat → ClassId) (fs : List Value) (hm : Nat) (Mx : Nat) (Msz : Int) (Xf : Nat → Int32) (x : Int) (f9 : fs[9]? = some (.ref Mx)) (f11 : fs[11]? = some (.int (iZ Msz))) (h9x : 0 ≤ x ∧ x ≤ 5000) (hsz : 0 ≤ Msz ∧ Msz ≤ 900) : RD l yX12_byteAt cX12_byteAt 2 (some .int) 0 D k [.ref hm, .int (iZ x)] [(hm, .inr (12, fs)), (Mx, .inl (k 0, 900, .inl Xf))] (iZ (tX Xf Msz x)) := by
  refine MR (by decide) (Nat.le_of_ble_eq_true rfl) (fun p e s m below meth c ls hx hb hml hr hlocks hts hown hKK hP hl => ?_)
  have hK := hKK.1
  have hl : lv_has ls 2 [(0, .ref hm), (1, .int (iZ x))] := hl
  refine lv_iload_n hx hb dX12_byteAt_0 rfl (lv_at hl 1 rfl) ?_
  refine lv_aload_n hx hb dX12_byteAt_1 rfl (lv_at hl 0 rfl) ?_
  refine va_get (D := D) (ci := 12) (v := .int (iZ Msz)) (C := RX12) (T := TX12) (N := 36) hx hb hts iX12 hown hK hP 0 rfl rfl 11 (by decide) (hts _ qf_X12_112) (fun _ h => h) f11 dX12_byteAt_2 ?_
  refine lv_icmp_ge (tgt := 21) hx hb dX12_byteAt_5 (by decide) (fun c_1 => ?_) (fun c_1 => ?_)
  ·
    have c_1 := (zle (x := iZ Msz) (y := iZ x) rfl rfl ⟨by omega, by omega⟩ ⟨by omega, by omega⟩).mp c_1
    refine lv_iconst (v := iZ (-1)) hx hb dX12_byteAt_21 (by decide) ?_
    exact ERi hx hb hr hlocks (congrArg iZ (show (-1) = tX Xf Msz x from (by unfold tX; rw [if_neg (by omega)]))) dX12_byteAt_22
  ·
    have c_1 := mt (zle (x := iZ Msz) (y := iZ x) rfl rfl ⟨by omega, by omega⟩ ⟨by omega, by omega⟩).mpr c_1
    refine lv_aload_n hx hb dX12_byteAt_8 rfl (lv_at hl 0 rfl) ?_
    refine va_get (D := D) (ci := 12) (v := .ref Mx) (C := RX12) (T := TX12) (N := 36) hx hb hts iX12 hown hK hP 0 rfl rfl 9 (by decide) (hts _ qf_X12_34) (fun _ h => h) f9 dX12_byteAt_9 ?_
    refine lv_iload_n hx hb dX12_byteAt_12 rfl (lv_at hl 1 rfl) ?_
    refine va_bald hx hb hK hP 1 0 rfl rfl (zin (e := x) (n := 900) ⟨by omega, by omega⟩ (by decide)) dX12_byteAt_13 ?_
    refine lv_topi (fun x_2 ex_2 => ?_)
    obtain rfl : x_2 = iZ (gz Xf x) := ex_2.trans (gz_eq ⟨by omega, by omega⟩)
    have h_3 := gz_rg Xf x
    refine lv_sipush (v := iZ 255) hx hb dX12_byteAt_14 (by decide) ?_
    refine lv_iand hx hb dX12_byteAt_17 ?_
    refine lv_topi (fun x_5 ex_5 => ?_)
    obtain ⟨z_4, hz_4, hz_4a, hz_4b⟩ := i32_z x_5
    subst hz_4
    refine lv_goto (tgt := 22) hx hb dX12_byteAt_18 (by decide) ?_
    exact ERi hx hb hr hlocks (by rw [← bA_tX (by omega)]; exact bA_in (by omega) (by assumption)) dX12_byteAt_22
set_option maxHeartbeats 4000000 in
set_option maxRecDepth 100000 in
theorem y_onward (l : Launch) (D : va_G) (k : Nat → ClassId) (hm : Nat) (Ma : Nat) (Mn : Nat) (Ms : Nat) (My : Nat) (Mt : Nat) (Mp : Nat) (Mx : Nat) (Mo : Nat) (Mk : Nat) (Ml : Nat) (Mb : Nat) (Mh : Nat) (Mc : Nat) (Mz : Nat) (Mr : Nat) (Mq : Nat) (Mst : Int) (Mtd : Int) (Msz : Int) (Mtk : Int) (Mfr : Int) (Men : Int) (Mva : Int) (Mfk : Int) (Mfp : Int) (Mfs : Int) (Mse : Int) (Mlt : Int) (Mdp : Int) (Mct : Int) (Mdr : Int) (Mrs : Int) (Mit : Int) (Mmk : Int) (Mtp : Int64) (Mbt : Int64) (Xf : Nat → Int32) (hE : (0 ≤ Men ∧ Men ≤ Msz) ∧ Msz ≤ 900) : WD (σ := ((Nat → Int) × (Nat → Int64) × (Nat → Nat → Int32) × (Nat → Nat → Int64))) l yX12_onward cX12_onward 2 none 1 0 0 D k [.ref hm] [(hm, .inr (12, [.ref Ma, .ref Mn, .int (iZ Mst), .long Mtp, .long Mbt, .ref Ms, .ref My, .ref Mt, .ref Mp, .ref Mx, .int (iZ Mtd), .int (iZ Msz), .int (iZ Mtk), .int (iZ Mfr), .int (iZ Men), .int (iZ Mva), .int (iZ Mfk), .int (iZ Mfp), .int (iZ Mfs), .int (iZ Mse), .int (iZ Mlt), .ref Mo, .int (iZ Mdp), .int (iZ Mct), .ref Mk, .ref Ml, .ref Mb, .ref Mh, .ref Mc, .int (iZ Mdr), .int (iZ Mrs), .ref Mz, .ref Mr, .ref Mq, .int (iZ Mit), .int (iZ Mmk)])), (Mx, .inl (k 0, 900, .inl Xf))] (fun _ => none) (fun u => (RFX (tX Xf Msz) Men (u.1 2) (u.1 3) (u.1 1) (u.1 4)) ∧ ((0 ≤ ((u.1 2) : Int) ∧ ((u.1 2) : Int) ≤ (u.1 3)) ∧ (((u.1 3) : Int) ≤ Msz ∧ (Msz : Int) ≤ 900) ∧ (0 ≤ ((u.1 1) : Int) ∧ ((u.1 1) : Int) ≤ 4) ∧ (((u.1 1) : Int) = 0 ∨ ((u.1 2) : Int) < (u.1 3)) ∧ (-1 ≤ ((u.1 4) : Int) ∧ ((u.1 4) : Int) ≤ 100000)) ∧ (Men ≤ (u.1 2))) (fun u => [(hm, .inr (12, [.ref Ma, .ref Mn, .int (iZ Mst), .long Mtp, .long Mbt, .ref Ms, .ref My, .ref Mt, .ref Mp, .ref Mx, .int (iZ Mtd), .int (iZ Msz), .int (iZ (u.1 1)), .int (iZ (u.1 2)), .int (iZ (u.1 3)), .int (iZ (u.1 4)), .int (iZ Mfk), .int (iZ Mfp), .int (iZ Mfs), .int (iZ Mse), .int (iZ Mlt), .ref Mo, .int (iZ Mdp), .int (iZ Mct), .ref Mk, .ref Ml, .ref Mb, .ref Mh, .ref Mc, .int (iZ Mdr), .int (iZ Mrs), .ref Mz, .ref Mr, .ref Mq, .int (iZ Mit), .int (iZ Mmk)])), (Mx, .inl (k 0, 900, .inl Xf))]) := by
  refine MW (by decide) (Nat.le_of_ble_eq_true rfl) (fun p e s m below meth c ls A hx hb hml hr hlocks hin hts hown hKK hP hD hS hA hl => ?_)
  have hK := hKK.1
  have hl : lv_has ls 2 [(0, .ref hm)] := hl
  have HL1 : ∀ (fu : Nat) (Men1 : Int) (H : Heap) (locs : List Loc) (ls : Array Slot), (Msz + 1 - Men1) < (fu : Int) → (Men ≤ Men1 ∧ Men1 ≤ Msz) → (∀ j : Int, Men ≤ j → j < Men1 → wsB (tX Xf Msz j)) → va_P D vwCl [(hm, .inr (12, [.ref Ma, .ref Mn, .int (iZ Mst), .long Mtp, .long Mbt, .ref Ms, .ref My, .ref Mt, .ref Mp, .ref Mx, .int (iZ Mtd), .int (iZ Msz), .int (iZ Mtk), .int (iZ Mfr), .int (iZ Men1), .int (iZ Mva), .int (iZ Mfk), .int (iZ Mfp), .int (iZ Mfs), .int (iZ Mse), .int (iZ Mlt), .ref Mo, .int (iZ Mdp), .int (iZ Mct), .ref Mk, .ref Ml, .ref Mb, .ref Mh, .ref Mc, .int (iZ Mdr), .int (iZ Mrs), .ref Mz, .ref Mr, .ref Mq, .int (iZ Mit), .int (iZ Mmk)])), (Mx, .inl (k 0, 900, .inl Xf))] H → va_D A [(hm, .inr (12, [.ref Ma, .ref Mn, .int (iZ Mst), .long Mtp, .long Mbt, .ref Ms, .ref My, .ref Mt, .ref Mp, .ref Mx, .int (iZ Mtd), .int (iZ Msz), .int (iZ Mtk), .int (iZ Mfr), .int (iZ Men1), .int (iZ Mva), .int (iZ Mfk), .int (iZ Mfp), .int (iZ Mfs), .int (iZ Mse), .int (iZ Mlt), .ref Mo, .int (iZ Mdp), .int (iZ Mct), .ref Mk, .ref Ml, .ref Mb, .ref Mh, .ref Mc, .int (iZ Mdr), .int (iZ Mrs), .ref Mz, .ref Mr, .ref Mq, .int (iZ Mit), .int (iZ Mmk)])), (Mx, .inl (k 0, 900, .inl Xf))] → va_S A s.heap H locs → lv_has ls 2 [(0, .ref hm)] → W p l e (rj 1 0 0) s m [.ref hm].toArray below meth c H locs 0 0 (MQ below (QW (σ := ((Nat → Int) × (Nat → Int64) × (Nat → Nat → Int32) × (Nat → Nat → Int64))) (fun _ => none) (fun u => (RFX (tX Xf Msz) Men (u.1 2) (u.1 3) (u.1 1) (u.1 4)) ∧ ((0 ≤ ((u.1 2) : Int) ∧ ((u.1 2) : Int) ≤ (u.1 3)) ∧ (((u.1 3) : Int) ≤ Msz ∧ (Msz : Int) ≤ 900) ∧ (0 ≤ ((u.1 1) : Int) ∧ ((u.1 1) : Int) ≤ 4) ∧ (((u.1 1) : Int) = 0 ∨ ((u.1 2) : Int) < (u.1 3)) ∧ (-1 ≤ ((u.1 4) : Int) ∧ ((u.1 4) : Int) ≤ 100000)) ∧ (Men ≤ (u.1 2))) (fun u => [(hm, .inr (12, [.ref Ma, .ref Mn, .int (iZ Mst), .long Mtp, .long Mbt, .ref Ms, .ref My, .ref Mt, .ref Mp, .ref Mx, .int (iZ Mtd), .int (iZ Msz), .int (iZ (u.1 1)), .int (iZ (u.1 2)), .int (iZ (u.1 3)), .int (iZ (u.1 4)), .int (iZ Mfk), .int (iZ Mfp), .int (iZ Mfs), .int (iZ Mse), .int (iZ Mlt), .ref Mo, .int (iZ Mdp), .int (iZ Mct), .ref Mk, .ref Ml, .ref Mb, .ref Mh, .ref Mc, .int (iZ Mdr), .int (iZ Mrs), .ref Mz, .ref Mr, .ref Mq, .int (iZ Mit), .int (iZ Mmk)])), (Mx, .inl (k 0, 900, .inl Xf))]) D A) [.ref hm].toArray s 0 0 A) (F0 m 0 ls []) := by
    intro fu
    induction fu with
    | zero => intro Men1 H locs ls hμ1 he1 hrun hP hD hS hl; exact absurd hμ1 (by omega)
    | succ fu ih1 =>
      intro Men1 H locs ls hμ1 he1 hrun hP hD hS hl
      refine lv_aload_n hx hb dX12_onward_0 rfl (lv_at hl 0 rfl) ?_
      refine lv_aload_n hx hb dX12_onward_1 rfl (lv_at hl 0 rfl) ?_
      refine va_get (D := D) (ci := 12) (v := .int (iZ Men1)) (C := RX12) (T := TX12) (N := 36) hx hb hts iX12 hown hK hP 0 rfl rfl 14 (by decide) (hts _ qf_X12_115) (fun _ h => h) rfl dX12_onward_2 ?_
      refine CRV (As := [.int (iZ Men1)]) (rest := []) hx hb hml hown hts hKK hP (y_byteAt l D k ([.ref Ma, .ref Mn, .int (iZ Mst), .long Mtp, .long Mbt, .ref Ms, .ref My, .ref Mt, .ref Mp, .ref Mx, .int (iZ Mtd), .int (iZ Msz), .int (iZ Mtk), .int (iZ Mfr), .int (iZ Men1), .int (iZ Mva), .int (iZ Mfk), .int (iZ Mfp), .int (iZ Mfs), .int (iZ Mse), .int (iZ Mlt), .ref Mo, .int (iZ Mdp), .int (iZ Mct), .ref Mk, .ref Ml, .ref Mb, .ref Mh, .ref Mc, .int (iZ Mdr), .int (iZ Mrs), .ref Mz, .ref Mr, .ref Mq, .int (iZ Mit), .int (iZ Mmk)]) hm Mx Msz Xf Men1 rfl rfl ⟨by omega, by omega⟩ ⟨by omega, by omega⟩) ci_X12_byteAt qm_X12_118 ⟨Nat.le_of_ble_eq_true rfl, Nat.le_of_ble_eq_true rfl⟩ ⟨Nat.le_of_ble_eq_true rfl, Nat.le_of_ble_eq_true rfl⟩ 0 rfl rfl rfl hl.1 rfl (Nat.le_of_ble_eq_true rfl) dX12_onward_5 ?_
      have hb_h_1 := tX_rg Xf Msz Men1 (by omega)
      refine lv_bipush (v := iZ 32) hx hb dX12_onward_8 (by decide) ?_
      refine lv_icmp_eq (tgt := 26) hx hb dX12_onward_10 (by decide) (fun c_2 => ?_) (fun c_2 => ?_)
      ·
        have c_2 := (zeq (x := iZ (tX Xf Msz Men1)) (y := iZ 32) rfl rfl ⟨by omega, by omega⟩ ⟨by omega, by omega⟩).mp c_2
        refine lv_aload_n hx hb dX12_onward_26 rfl (lv_at hl 0 rfl) ?_
        refine lv_dup hx hb dX12_onward_27 rfl ?_
        refine va_get (D := D) (ci := 12) (v := .int (iZ Men1)) (C := RX12) (T := TX12) (N := 36) hx hb hts iX12 hown hK hP 0 rfl rfl 14 (by decide) (hts _ qf_X12_115) (fun _ h => h) rfl dX12_onward_28 ?_
        refine lv_iconst (v := iZ 1) hx hb dX12_onward_31 (by decide) ?_
        refine lv_iadd hx hb dX12_onward_32 ?_
        refine lv_topi (fun x_3 ex_3 => ?_)
        obtain rfl : x_3 = iZ (Men1 + 1) := ex_3.trans (iZ_add Men1 1)
        refine va_put (D := D) (ci := 12) (v := .int (iZ (Men1 + 1))) (ty := .int) (C := RX12) (T := TX12) (N := 36) hx hb hts iX12 tyX12 tyX12_ok nmX12 hown hK hP hD hS 0 rfl rfl 14 (by decide) (hts _ qf_X12_115) (fun _ h => h) rfl (by decide +kernel) rfl rfl (Nat.le_of_ble_eq_true rfl) dX12_onward_33 (fun H locs hP hD hS => ?_)
        refine lv_goto (tgt := 0) hx hb dX12_onward_36 (by decide) ?_
        exact ih1  (Men1 + 1) _ _ _ (by omega) (show Men ≤ (Men1 + 1) ∧ (Men1 + 1) ≤ Msz from ⟨by omega, by omega⟩) (show ∀ j : Int, Men ≤ j → j < (Men1 + 1) → wsB (tX Xf Msz j) from (rn_step hrun (show tX Xf Msz Men1 = 32 ∨ tX Xf Msz Men1 = 10 from (by omega)))) (hP.sub [0, 1] rfl) (hD.sub [0, 1] rfl rfl) hS (lv_sub hl [0] rfl)
      ·
        have c_2 := mt (zeq (x := iZ (tX Xf Msz Men1)) (y := iZ 32) rfl rfl ⟨by omega, by omega⟩ ⟨by omega, by omega⟩).mpr c_2
        refine lv_aload_n hx hb dX12_onward_13 rfl (lv_at hl 0 rfl) ?_
        refine lv_aload_n hx hb dX12_onward_14 rfl (lv_at hl 0 rfl) ?_
        refine va_get (D := D) (ci := 12) (v := .int (iZ Men1)) (C := RX12) (T := TX12) (N := 36) hx hb hts iX12 hown hK hP 0 rfl rfl 14 (by decide) (hts _ qf_X12_115) (fun _ h => h) rfl dX12_onward_15 ?_
        refine CRV (As := [.int (iZ Men1)]) (rest := []) hx hb hml hown hts hKK hP (y_byteAt l D k ([.ref Ma, .ref Mn, .int (iZ Mst), .long Mtp, .long Mbt, .ref Ms, .ref My, .ref Mt, .ref Mp, .ref Mx, .int (iZ Mtd), .int (iZ Msz), .int (iZ Mtk), .int (iZ Mfr), .int (iZ Men1), .int (iZ Mva), .int (iZ Mfk), .int (iZ Mfp), .int (iZ Mfs), .int (iZ Mse), .int (iZ Mlt), .ref Mo, .int (iZ Mdp), .int (iZ Mct), .ref Mk, .ref Ml, .ref Mb, .ref Mh, .ref Mc, .int (iZ Mdr), .int (iZ Mrs), .ref Mz, .ref Mr, .ref Mq, .int (iZ Mit), .int (iZ Mmk)]) hm Mx Msz Xf Men1 rfl rfl ⟨by omega, by omega⟩ ⟨by omega, by omega⟩) ci_X12_byteAt qm_X12_118 ⟨Nat.le_of_ble_eq_true rfl, Nat.le_of_ble_eq_true rfl⟩ ⟨Nat.le_of_ble_eq_true rfl, Nat.le_of_ble_eq_true rfl⟩ 0 rfl rfl rfl hl.1 rfl (Nat.le_of_ble_eq_true rfl) dX12_onward_18 ?_
        have hb_h_4 := tX_rg Xf Msz Men1 (by omega)
        refine lv_bipush (v := iZ 10) hx hb dX12_onward_21 (by decide) ?_
        refine lv_icmp_ne (tgt := 39) hx hb dX12_onward_23 (by decide) (fun c_5 => ?_) (fun c_5 => ?_)
        ·
          have c_5 := mt (zeq (x := iZ (tX Xf Msz Men1)) (y := iZ 10) rfl rfl ⟨by omega, by omega⟩ ⟨by omega, by omega⟩).mpr c_5
          have hpl : Men1 = xPl (tX Xf Msz) Men := rnF_eq ⟨by omega, hrun, (show ¬ (tX Xf Msz Men1 = 32 ∨ tX Xf Msz Men1 = 10) from (by omega))⟩
          refine lv_aload_n hx hb dX12_onward_39 rfl (lv_at hl 0 rfl) ?_
          refine lv_aload_n hx hb dX12_onward_40 rfl (lv_at hl 0 rfl) ?_
          refine va_get (D := D) (ci := 12) (v := .int (iZ Men1)) (C := RX12) (T := TX12) (N := 36) hx hb hts iX12 hown hK hP 0 rfl rfl 14 (by decide) (hts _ qf_X12_115) (fun _ h => h) rfl dX12_onward_41 ?_
          refine va_put (D := D) (ci := 12) (v := .int (iZ Men1)) (ty := .int) (C := RX12) (T := TX12) (N := 36) hx hb hts iX12 tyX12 tyX12_ok nmX12 hown hK hP hD hS 0 rfl rfl 13 (by decide) (hts _ qf_X12_121) (fun _ h => h) rfl (by decide +kernel) rfl rfl (Nat.le_of_ble_eq_true rfl) dX12_onward_44 (fun H locs hP hD hS => ?_)
          refine lv_aload_n hx hb dX12_onward_47 rfl (lv_at hl 0 rfl) ?_
          refine lv_aload_n hx hb dX12_onward_48 rfl (lv_at hl 0 rfl) ?_
          refine va_get (D := D) (ci := 12) (v := .int (iZ Men1)) (C := RX12) (T := TX12) (N := 36) hx hb hts iX12 hown hK hP 0 rfl rfl 14 (by decide) (hts _ qf_X12_115) (fun _ h => h) rfl dX12_onward_49 ?_
          refine CRV (As := [.int (iZ Men1)]) (rest := []) hx hb hml hown hts hKK hP (y_byteAt l D k ([.ref Ma, .ref Mn, .int (iZ Mst), .long Mtp, .long Mbt, .ref Ms, .ref My, .ref Mt, .ref Mp, .ref Mx, .int (iZ Mtd), .int (iZ Msz), .int (iZ Mtk), .int (iZ Men1), .int (iZ Men1), .int (iZ Mva), .int (iZ Mfk), .int (iZ Mfp), .int (iZ Mfs), .int (iZ Mse), .int (iZ Mlt), .ref Mo, .int (iZ Mdp), .int (iZ Mct), .ref Mk, .ref Ml, .ref Mb, .ref Mh, .ref Mc, .int (iZ Mdr), .int (iZ Mrs), .ref Mz, .ref Mr, .ref Mq, .int (iZ Mit), .int (iZ Mmk)]) hm Mx Msz Xf Men1 rfl rfl ⟨by omega, by omega⟩ ⟨by omega, by omega⟩) ci_X12_byteAt qm_X12_118 ⟨Nat.le_of_ble_eq_true rfl, Nat.le_of_ble_eq_true rfl⟩ ⟨Nat.le_of_ble_eq_true rfl, Nat.le_of_ble_eq_true rfl⟩ 0 rfl rfl rfl hl.1 rfl (Nat.le_of_ble_eq_true rfl) dX12_onward_52 ?_
          have hb_h_6 := tX_rg Xf Msz Men1 (by omega)
          refine lv_istore_n (lv' := [(1, .int (iZ (tX Xf Msz Men1))), (0, .ref hm)]) hx hb dX12_onward_55 rfl hl (by decide) rfl (fun ls hl => ?_)
          refine lv_aload_n hx hb dX12_onward_56 rfl (lv_at hl 1 rfl) ?_
          refine lv_iload_n hx hb dX12_onward_57 rfl (lv_at hl 0 rfl) ?_
          refine va_put (D := D) (ci := 12) (v := .int (iZ (tX Xf Msz Men1))) (ty := .int) (C := RX12) (T := TX12) (N := 36) hx hb hts iX12 tyX12 tyX12_ok nmX12 hown hK hP hD hS 0 rfl rfl 15 (by decide) (hts _ qf_X12_124) (fun _ h => h) rfl (by decide +kernel) rfl rfl (Nat.le_of_ble_eq_true rfl) dX12_onward_58 (fun H locs hP hD hS => ?_)
          refine lv_iload_n hx hb dX12_onward_61 rfl (lv_at hl 0 rfl) ?_
          refine lv_iconst (v := iZ (-1)) hx hb dX12_onward_62 (by decide) ?_
          refine lv_icmp_ne (tgt := 74) hx hb dX12_onward_63 (by decide) (fun c_7 => ?_) (fun c_7 => ?_)
          ·
            have c_7 := mt (zeq (x := iZ (tX Xf Msz Men1)) (y := iZ (-1)) rfl rfl ⟨by omega, by omega⟩ ⟨by omega, by omega⟩).mpr c_7
            refine lv_iload_n hx hb dX12_onward_74 rfl (lv_at hl 0 rfl) ?_
            refine CPS (As := [.int (iZ (tX Xf Msz Men1))]) (rest := []) hx hb hml hown hts hKK (hP.sub (ws' := []) [] rfl) (m_isSmall l D k (tX Xf Msz Men1) ⟨by omega, by omega⟩) ci_X12_isSmall qm_X12_130 ⟨Nat.le_of_ble_eq_true rfl, Nat.le_of_ble_eq_true rfl⟩ ⟨Nat.le_of_ble_eq_true rfl, Nat.le_of_ble_eq_true rfl⟩ rfl hl.1 rfl (Nat.le_of_ble_eq_true rfl) dX12_onward_75 (fun z_8 hz_8 => ?_)
            rcases hz_8 with ⟨qz_8, hz_8⟩ | ⟨qz_8, hz_8⟩
            ·
              subst qz_8
              refine lv_if_eq (tgt := 116) hx hb dX12_onward_78 (by decide) (fun c => absurd c (by decide)) (fun _ => ?_)
              have HL2 : ∀ (fu : Nat) (Men2 : Int) (H : Heap) (locs : List Loc) (ls : Array Slot), (Msz + 1 - Men2) < (fu : Int) → (Men1 ≤ Men2 ∧ Men2 ≤ Msz) → (∀ j : Int, Men1 ≤ j → j < Men2 → smB (tX Xf Msz j)) → va_P D vwCl [(hm, .inr (12, [.ref Ma, .ref Mn, .int (iZ Mst), .long Mtp, .long Mbt, .ref Ms, .ref My, .ref Mt, .ref Mp, .ref Mx, .int (iZ Mtd), .int (iZ Msz), .int (iZ Mtk), .int (iZ Men1), .int (iZ Men2), .int (iZ (tX Xf Msz Men1)), .int (iZ Mfk), .int (iZ Mfp), .int (iZ Mfs), .int (iZ Mse), .int (iZ Mlt), .ref Mo, .int (iZ Mdp), .int (iZ Mct), .ref Mk, .ref Ml, .ref Mb, .ref Mh, .ref Mc, .int (iZ Mdr), .int (iZ Mrs), .ref Mz, .ref Mr, .ref Mq, .int (iZ Mit), .int (iZ Mmk)])), (Mx, .inl (k 0, 900, .inl Xf))] H → va_D A [(hm, .inr (12, [.ref Ma, .ref Mn, .int (iZ Mst), .long Mtp, .long Mbt, .ref Ms, .ref My, .ref Mt, .ref Mp, .ref Mx, .int (iZ Mtd), .int (iZ Msz), .int (iZ Mtk), .int (iZ Men1), .int (iZ Men2), .int (iZ (tX Xf Msz Men1)), .int (iZ Mfk), .int (iZ Mfp), .int (iZ Mfs), .int (iZ Mse), .int (iZ Mlt), .ref Mo, .int (iZ Mdp), .int (iZ Mct), .ref Mk, .ref Ml, .ref Mb, .ref Mh, .ref Mc, .int (iZ Mdr), .int (iZ Mrs), .ref Mz, .ref Mr, .ref Mq, .int (iZ Mit), .int (iZ Mmk)])), (Mx, .inl (k 0, 900, .inl Xf))] → va_S A s.heap H locs → lv_has ls 2 [(1, .int (iZ (tX Xf Msz Men1))), (0, .ref hm)] → W p l e (rj 1 0 0) s m [.ref hm].toArray below meth c H locs 0 0 (MQ below (QW (σ := ((Nat → Int) × (Nat → Int64) × (Nat → Nat → Int32) × (Nat → Nat → Int64))) (fun _ => none) (fun u => (RFX (tX Xf Msz) Men (u.1 2) (u.1 3) (u.1 1) (u.1 4)) ∧ ((0 ≤ ((u.1 2) : Int) ∧ ((u.1 2) : Int) ≤ (u.1 3)) ∧ (((u.1 3) : Int) ≤ Msz ∧ (Msz : Int) ≤ 900) ∧ (0 ≤ ((u.1 1) : Int) ∧ ((u.1 1) : Int) ≤ 4) ∧ (((u.1 1) : Int) = 0 ∨ ((u.1 2) : Int) < (u.1 3)) ∧ (-1 ≤ ((u.1 4) : Int) ∧ ((u.1 4) : Int) ≤ 100000)) ∧ (Men ≤ (u.1 2))) (fun u => [(hm, .inr (12, [.ref Ma, .ref Mn, .int (iZ Mst), .long Mtp, .long Mbt, .ref Ms, .ref My, .ref Mt, .ref Mp, .ref Mx, .int (iZ Mtd), .int (iZ Msz), .int (iZ (u.1 1)), .int (iZ (u.1 2)), .int (iZ (u.1 3)), .int (iZ (u.1 4)), .int (iZ Mfk), .int (iZ Mfp), .int (iZ Mfs), .int (iZ Mse), .int (iZ Mlt), .ref Mo, .int (iZ Mdp), .int (iZ Mct), .ref Mk, .ref Ml, .ref Mb, .ref Mh, .ref Mc, .int (iZ Mdr), .int (iZ Mrs), .ref Mz, .ref Mr, .ref Mq, .int (iZ Mit), .int (iZ Mmk)])), (Mx, .inl (k 0, 900, .inl Xf))]) D A) [.ref hm].toArray s 0 0 A) (F0 m 81 ls []) := by
                intro fu
                induction fu with
                | zero => intro Men2 H locs ls hμ2 he2 hrun2 hP hD hS hl; exact absurd hμ2 (by omega)
                | succ fu ih2 =>
                  intro Men2 H locs ls hμ2 he2 hrun2 hP hD hS hl
                  refine lv_aload_n hx hb dX12_onward_81 rfl (lv_at hl 1 rfl) ?_
                  refine lv_aload_n hx hb dX12_onward_82 rfl (lv_at hl 1 rfl) ?_
                  refine va_get (D := D) (ci := 12) (v := .int (iZ Men2)) (C := RX12) (T := TX12) (N := 36) hx hb hts iX12 hown hK hP 0 rfl rfl 14 (by decide) (hts _ qf_X12_115) (fun _ h => h) rfl dX12_onward_83 ?_
                  refine CRV (As := [.int (iZ Men2)]) (rest := []) hx hb hml hown hts hKK hP (y_byteAt l D k ([.ref Ma, .ref Mn, .int (iZ Mst), .long Mtp, .long Mbt, .ref Ms, .ref My, .ref Mt, .ref Mp, .ref Mx, .int (iZ Mtd), .int (iZ Msz), .int (iZ Mtk), .int (iZ Men1), .int (iZ Men2), .int (iZ (tX Xf Msz Men1)), .int (iZ Mfk), .int (iZ Mfp), .int (iZ Mfs), .int (iZ Mse), .int (iZ Mlt), .ref Mo, .int (iZ Mdp), .int (iZ Mct), .ref Mk, .ref Ml, .ref Mb, .ref Mh, .ref Mc, .int (iZ Mdr), .int (iZ Mrs), .ref Mz, .ref Mr, .ref Mq, .int (iZ Mit), .int (iZ Mmk)]) hm Mx Msz Xf Men2 rfl rfl ⟨by omega, by omega⟩ ⟨by omega, by omega⟩) ci_X12_byteAt qm_X12_118 ⟨Nat.le_of_ble_eq_true rfl, Nat.le_of_ble_eq_true rfl⟩ ⟨Nat.le_of_ble_eq_true rfl, Nat.le_of_ble_eq_true rfl⟩ 0 rfl rfl rfl hl.1 rfl (Nat.le_of_ble_eq_true rfl) dX12_onward_86 ?_
                  have hb_h_10 := tX_rg Xf Msz Men2 (by omega)
                  refine CPS (As := [.int (iZ (tX Xf Msz Men2))]) (rest := []) hx hb hml hown hts hKK (hP.sub (ws' := []) [] rfl) (m_isSmall l D k (tX Xf Msz Men2) ⟨by omega, by omega⟩) ci_X12_isSmall qm_X12_130 ⟨Nat.le_of_ble_eq_true rfl, Nat.le_of_ble_eq_true rfl⟩ ⟨Nat.le_of_ble_eq_true rfl, Nat.le_of_ble_eq_true rfl⟩ rfl hl.1 rfl (Nat.le_of_ble_eq_true rfl) dX12_onward_89 (fun z_11 hz_11 => ?_)
                  rcases hz_11 with ⟨qz_11, hz_11⟩ | ⟨qz_11, hz_11⟩
                  ·
                    subst qz_11
                    refine lv_if_eq (tgt := 108) hx hb dX12_onward_92 (by decide) (fun c => absurd c (by decide)) (fun _ => ?_)
                    refine lv_aload_n hx hb dX12_onward_95 rfl (lv_at hl 1 rfl) ?_
                    refine lv_dup hx hb dX12_onward_96 rfl ?_
                    refine va_get (D := D) (ci := 12) (v := .int (iZ Men2)) (C := RX12) (T := TX12) (N := 36) hx hb hts iX12 hown hK hP 0 rfl rfl 14 (by decide) (hts _ qf_X12_115) (fun _ h => h) rfl dX12_onward_97 ?_
                    refine lv_iconst (v := iZ 1) hx hb dX12_onward_100 (by decide) ?_
                    refine lv_iadd hx hb dX12_onward_101 ?_
                    refine lv_topi (fun x_13 ex_13 => ?_)
                    obtain rfl : x_13 = iZ (Men2 + 1) := ex_13.trans (iZ_add Men2 1)
                    refine va_put (D := D) (ci := 12) (v := .int (iZ (Men2 + 1))) (ty := .int) (C := RX12) (T := TX12) (N := 36) hx hb hts iX12 tyX12 tyX12_ok nmX12 hown hK hP hD hS 0 rfl rfl 14 (by decide) (hts _ qf_X12_115) (fun _ h => h) rfl (by decide +kernel) rfl rfl (Nat.le_of_ble_eq_true rfl) dX12_onward_102 (fun H locs hP hD hS => ?_)
                    refine lv_goto (tgt := 81) hx hb dX12_onward_105 (by decide) ?_
                    exact ih2  (Men2 + 1) _ _ _ (by omega) (show Men1 ≤ (Men2 + 1) ∧ (Men2 + 1) ≤ Msz from ⟨by omega, by omega⟩) (show ∀ j : Int, Men1 ≤ j → j < (Men2 + 1) → smB (tX Xf Msz j) from (rn_step hrun2 (show 97 ≤ tX Xf Msz Men2 ∧ tX Xf Msz Men2 ≤ 122 from (by omega)))) (hP.sub [0, 1] rfl) (hD.sub [0, 1] rfl rfl) hS (lv_sub hl [0, 1] rfl)
                  ·
                    subst qz_11
                    refine lv_if_eq (tgt := 108) hx hb dX12_onward_92 (by decide) (fun _ => ?_) (fun c => absurd (by decide) c)
                    refine lv_aload_n hx hb dX12_onward_108 rfl (lv_at hl 1 rfl) ?_
                    refine lv_iconst (v := iZ 2) hx hb dX12_onward_109 (by decide) ?_
                    refine va_put (D := D) (ci := 12) (v := .int (iZ 2)) (ty := .int) (C := RX12) (T := TX12) (N := 36) hx hb hts iX12 tyX12 tyX12_ok nmX12 hown hK hP hD hS 0 rfl rfl 12 (by decide) (hts _ qf_X12_127) (fun _ h => h) rfl (by decide +kernel) rfl rfl (Nat.le_of_ble_eq_true rfl) dX12_onward_110 (fun H locs hP hD hS => ?_)
                    refine lv_goto (tgt := 251) hx hb dX12_onward_113 (by decide) ?_
                    have hsm : smB (tX Xf Msz Men1) := (show 97 ≤ tX Xf Msz Men1 ∧ tX Xf Msz Men1 ≤ 122 from (by omega))
                    have hr1 : isRn smB (tX Xf Msz) Men1 Men2 := ⟨by omega, hrun2, (show ¬ (97 ≤ tX Xf Msz Men2 ∧ tX Xf Msz Men2 ≤ 122) from (by omega))⟩
                    have tk := tk_word hpl hsm hr1
                    have hlt9 := rn_lt hr1 hsm
                    exact EWv hx hb hr hlocks hS (fun i => [0, 2, Men1, Men2, (tX Xf Msz Men1)].getD i 0, fun i => [0].getD i 0, fun i => [].getD i (fun _ => 0), fun i => [].getD i (fun _ => 0)) rfl ⟨(show RFX (tX Xf Msz) Men Men1 Men2 2 (tX Xf Msz Men1) from ⟨⟨by omega, hpl⟩, tk.1.symm, (by rw [tk.2.1]; rfl), (fun h => absurd h (by omega)), (fun _ => by unfold xLn; rw [tk.1, ← hpl]; exact xLet_rn hr1), Or.inr (rn_lt hr1 hsm)⟩), (show (0 ≤ (Men1 : Int) ∧ (Men1 : Int) ≤ Men2) ∧ ((Men2 : Int) ≤ Msz ∧ (Msz : Int) ≤ 900) ∧ (0 ≤ (2 : Int) ∧ (2 : Int) ≤ 4) ∧ ((2 : Int) = 0 ∨ (Men1 : Int) < Men2) ∧ (-1 ≤ ((tX Xf Msz Men1) : Int) ∧ ((tX Xf Msz Men1) : Int) ≤ 100000) from ⟨⟨by omega, by omega⟩, ⟨by omega, by omega⟩, ⟨by omega, by omega⟩, by omega, by omega, by omega⟩), (show Men ≤ Men1 from (by omega))⟩ (hP.sub [0, 1] rfl) (hD.sub [0, 1] rfl rfl) dX12_onward_251
              exact HL2 902 Men1 _ _ _ (by omega) (show Men1 ≤ Men1 ∧ Men1 ≤ Msz from ⟨by omega, by omega⟩) (show ∀ j : Int, Men1 ≤ j → j < Men1 → smB (tX Xf Msz j) from rn_none) (hP.sub [0, 1] rfl) (hD.sub [0, 1] rfl rfl) hS (lv_sub hl [0, 1] rfl)
            ·
              subst qz_8
              refine lv_if_eq (tgt := 116) hx hb dX12_onward_78 (by decide) (fun _ => ?_) (fun c => absurd (by decide) c)
              refine lv_iload_n hx hb dX12_onward_116 rfl (lv_at hl 0 rfl) ?_
              refine CPS (As := [.int (iZ (tX Xf Msz Men1))]) (rest := []) hx hb hml hown hts hKK (hP.sub (ws' := []) [] rfl) (m_isDigit l D k (tX Xf Msz Men1) ⟨by omega, by omega⟩) ci_X12_isDigit qm_X12_133 ⟨Nat.le_of_ble_eq_true rfl, Nat.le_of_ble_eq_true rfl⟩ ⟨Nat.le_of_ble_eq_true rfl, Nat.le_of_ble_eq_true rfl⟩ rfl hl.1 rfl (Nat.le_of_ble_eq_true rfl) dX12_onward_117 (fun z_16 hz_16 => ?_)
              rcases hz_16 with ⟨qz_16, hz_16⟩ | ⟨qz_16, hz_16⟩
              ·
                subst qz_16
                refine lv_if_eq (tgt := 208) hx hb dX12_onward_120 (by decide) (fun c => absurd c (by decide)) (fun _ => ?_)
                refine lv_aload_n hx hb dX12_onward_123 rfl (lv_at hl 1 rfl) ?_
                refine lv_iconst (v := iZ 0) hx hb dX12_onward_124 (by decide) ?_
                refine va_put (D := D) (ci := 12) (v := .int (iZ 0)) (ty := .int) (C := RX12) (T := TX12) (N := 36) hx hb hts iX12 tyX12 tyX12_ok nmX12 hown hK hP hD hS 0 rfl rfl 15 (by decide) (hts _ qf_X12_124) (fun _ h => h) rfl (by decide +kernel) rfl rfl (Nat.le_of_ble_eq_true rfl) dX12_onward_125 (fun H locs hP hD hS => ?_)
                have HL3 : ∀ (fu : Nat) (Men3 : Int) (Mva3 : Int) (H : Heap) (locs : List Loc) (ls : Array Slot), (Msz + 1 - Men3) < (fu : Int) → (Men1 ≤ Men3 ∧ Men3 ≤ Msz) → (∀ j : Int, Men1 ≤ j → j < Men3 → dgB (tX Xf Msz j)) → (Men3 - Men1 ≤ 4 → Mva3 = xDv (tX Xf Msz) Men1 (Men3 - Men1).toNat) → (0 ≤ Mva3 ∧ Mva3 ≤ 100000 ∧ (Men3 - Men1 ≤ 3 → Mva3 ≤ 999) ∧ (Men3 - Men1 ≤ 2 → Mva3 ≤ 99) ∧ (Men3 - Men1 ≤ 1 → Mva3 ≤ 9) ∧ (Men3 - Men1 ≤ 0 → Mva3 ≤ 0)) → va_P D vwCl [(hm, .inr (12, [.ref Ma, .ref Mn, .int (iZ Mst), .long Mtp, .long Mbt, .ref Ms, .ref My, .ref Mt, .ref Mp, .ref Mx, .int (iZ Mtd), .int (iZ Msz), .int (iZ Mtk), .int (iZ Men1), .int (iZ Men3), .int (iZ Mva3), .int (iZ Mfk), .int (iZ Mfp), .int (iZ Mfs), .int (iZ Mse), .int (iZ Mlt), .ref Mo, .int (iZ Mdp), .int (iZ Mct), .ref Mk, .ref Ml, .ref Mb, .ref Mh, .ref Mc, .int (iZ Mdr), .int (iZ Mrs), .ref Mz, .ref Mr, .ref Mq, .int (iZ Mit), .int (iZ Mmk)])), (Mx, .inl (k 0, 900, .inl Xf))] H → va_D A [(hm, .inr (12, [.ref Ma, .ref Mn, .int (iZ Mst), .long Mtp, .long Mbt, .ref Ms, .ref My, .ref Mt, .ref Mp, .ref Mx, .int (iZ Mtd), .int (iZ Msz), .int (iZ Mtk), .int (iZ Men1), .int (iZ Men3), .int (iZ Mva3), .int (iZ Mfk), .int (iZ Mfp), .int (iZ Mfs), .int (iZ Mse), .int (iZ Mlt), .ref Mo, .int (iZ Mdp), .int (iZ Mct), .ref Mk, .ref Ml, .ref Mb, .ref Mh, .ref Mc, .int (iZ Mdr), .int (iZ Mrs), .ref Mz, .ref Mr, .ref Mq, .int (iZ Mit), .int (iZ Mmk)])), (Mx, .inl (k 0, 900, .inl Xf))] → va_S A s.heap H locs → lv_has ls 2 [(1, .int (iZ (tX Xf Msz Men1))), (0, .ref hm)] → W p l e (rj 1 0 0) s m [.ref hm].toArray below meth c H locs 0 0 (MQ below (QW (σ := ((Nat → Int) × (Nat → Int64) × (Nat → Nat → Int32) × (Nat → Nat → Int64))) (fun _ => none) (fun u => (RFX (tX Xf Msz) Men (u.1 2) (u.1 3) (u.1 1) (u.1 4)) ∧ ((0 ≤ ((u.1 2) : Int) ∧ ((u.1 2) : Int) ≤ (u.1 3)) ∧ (((u.1 3) : Int) ≤ Msz ∧ (Msz : Int) ≤ 900) ∧ (0 ≤ ((u.1 1) : Int) ∧ ((u.1 1) : Int) ≤ 4) ∧ (((u.1 1) : Int) = 0 ∨ ((u.1 2) : Int) < (u.1 3)) ∧ (-1 ≤ ((u.1 4) : Int) ∧ ((u.1 4) : Int) ≤ 100000)) ∧ (Men ≤ (u.1 2))) (fun u => [(hm, .inr (12, [.ref Ma, .ref Mn, .int (iZ Mst), .long Mtp, .long Mbt, .ref Ms, .ref My, .ref Mt, .ref Mp, .ref Mx, .int (iZ Mtd), .int (iZ Msz), .int (iZ (u.1 1)), .int (iZ (u.1 2)), .int (iZ (u.1 3)), .int (iZ (u.1 4)), .int (iZ Mfk), .int (iZ Mfp), .int (iZ Mfs), .int (iZ Mse), .int (iZ Mlt), .ref Mo, .int (iZ Mdp), .int (iZ Mct), .ref Mk, .ref Ml, .ref Mb, .ref Mh, .ref Mc, .int (iZ Mdr), .int (iZ Mrs), .ref Mz, .ref Mr, .ref Mq, .int (iZ Mit), .int (iZ Mmk)])), (Mx, .inl (k 0, 900, .inl Xf))]) D A) [.ref hm].toArray s 0 0 A) (F0 m 128 ls []) := by
                  intro fu
                  induction fu with
                  | zero => intro Men3 Mva3 H locs ls hμ3 he3 hrun3 hv3 hb3 hP hD hS hl; exact absurd hμ3 (by omega)
                  | succ fu ih3 =>
                    intro Men3 Mva3 H locs ls hμ3 he3 hrun3 hv3 hb3 hP hD hS hl
                    refine lv_aload_n hx hb dX12_onward_128 rfl (lv_at hl 1 rfl) ?_
                    refine lv_aload_n hx hb dX12_onward_129 rfl (lv_at hl 1 rfl) ?_
                    refine va_get (D := D) (ci := 12) (v := .int (iZ Men3)) (C := RX12) (T := TX12) (N := 36) hx hb hts iX12 hown hK hP 0 rfl rfl 14 (by decide) (hts _ qf_X12_115) (fun _ h => h) rfl dX12_onward_130 ?_
                    refine CRV (As := [.int (iZ Men3)]) (rest := []) hx hb hml hown hts hKK hP (y_byteAt l D k ([.ref Ma, .ref Mn, .int (iZ Mst), .long Mtp, .long Mbt, .ref Ms, .ref My, .ref Mt, .ref Mp, .ref Mx, .int (iZ Mtd), .int (iZ Msz), .int (iZ Mtk), .int (iZ Men1), .int (iZ Men3), .int (iZ Mva3), .int (iZ Mfk), .int (iZ Mfp), .int (iZ Mfs), .int (iZ Mse), .int (iZ Mlt), .ref Mo, .int (iZ Mdp), .int (iZ Mct), .ref Mk, .ref Ml, .ref Mb, .ref Mh, .ref Mc, .int (iZ Mdr), .int (iZ Mrs), .ref Mz, .ref Mr, .ref Mq, .int (iZ Mit), .int (iZ Mmk)]) hm Mx Msz Xf Men3 rfl rfl ⟨by omega, by omega⟩ ⟨by omega, by omega⟩) ci_X12_byteAt qm_X12_118 ⟨Nat.le_of_ble_eq_true rfl, Nat.le_of_ble_eq_true rfl⟩ ⟨Nat.le_of_ble_eq_true rfl, Nat.le_of_ble_eq_true rfl⟩ 0 rfl rfl rfl hl.1 rfl (Nat.le_of_ble_eq_true rfl) dX12_onward_133 ?_
                    have hb_h_18 := tX_rg Xf Msz Men3 (by omega)
                    refine CPS (As := [.int (iZ (tX Xf Msz Men3))]) (rest := []) hx hb hml hown hts hKK (hP.sub (ws' := []) [] rfl) (m_isDigit l D k (tX Xf Msz Men3) ⟨by omega, by omega⟩) ci_X12_isDigit qm_X12_133 ⟨Nat.le_of_ble_eq_true rfl, Nat.le_of_ble_eq_true rfl⟩ ⟨Nat.le_of_ble_eq_true rfl, Nat.le_of_ble_eq_true rfl⟩ rfl hl.1 rfl (Nat.le_of_ble_eq_true rfl) dX12_onward_136 (fun z_19 hz_19 => ?_)
                    rcases hz_19 with ⟨qz_19, hz_19⟩ | ⟨qz_19, hz_19⟩
                    ·
                      subst qz_19
                      refine lv_if_eq (tgt := 183) hx hb dX12_onward_139 (by decide) (fun c => absurd c (by decide)) (fun _ => ?_)
                      refine lv_aload_n hx hb dX12_onward_142 rfl (lv_at hl 1 rfl) ?_
                      refine lv_ldc (own := RX12) (v := 100000) hx hb hown (hts _ qk_X12_136) dX12_onward_143 ?_
                      refine W.eq (g2 := F0 m 145 ls [.int (iZ 100000), .ref hm]) rfl ?_
                      refine lv_bipush (v := iZ 10) hx hb dX12_onward_145 (by decide) ?_
                      refine lv_aload_n hx hb dX12_onward_147 rfl (lv_at hl 1 rfl) ?_
                      refine va_get (D := D) (ci := 12) (v := .int (iZ Mva3)) (C := RX12) (T := TX12) (N := 36) hx hb hts iX12 hown hK hP 0 rfl rfl 15 (by decide) (hts _ qf_X12_124) (fun _ h => h) rfl dX12_onward_148 ?_
                      refine lv_imul hx hb dX12_onward_151 ?_
                      refine lv_topi (fun x_21 ex_21 => ?_)
                      obtain rfl : x_21 = iZ (10 * Mva3) := ex_21.trans (iZ_mul 10 Mva3)
                      refine lv_aload_n hx hb dX12_onward_152 rfl (lv_at hl 1 rfl) ?_
                      refine lv_aload_n hx hb dX12_onward_153 rfl (lv_at hl 1 rfl) ?_
                      refine va_get (D := D) (ci := 12) (v := .int (iZ Men3)) (C := RX12) (T := TX12) (N := 36) hx hb hts iX12 hown hK hP 0 rfl rfl 14 (by decide) (hts _ qf_X12_115) (fun _ h => h) rfl dX12_onward_154 ?_
                      refine CRV (As := [.int (iZ Men3)]) (rest := [.int (iZ (10 * Mva3)), .int (iZ 100000), .ref hm]) hx hb hml hown hts hKK hP (y_byteAt l D k ([.ref Ma, .ref Mn, .int (iZ Mst), .long Mtp, .long Mbt, .ref Ms, .ref My, .ref Mt, .ref Mp, .ref Mx, .int (iZ Mtd), .int (iZ Msz), .int (iZ Mtk), .int (iZ Men1), .int (iZ Men3), .int (iZ Mva3), .int (iZ Mfk), .int (iZ Mfp), .int (iZ Mfs), .int (iZ Mse), .int (iZ Mlt), .ref Mo, .int (iZ Mdp), .int (iZ Mct), .ref Mk, .ref Ml, .ref Mb, .ref Mh, .ref Mc, .int (iZ Mdr), .int (iZ Mrs), .ref Mz, .ref Mr, .ref Mq, .int (iZ Mit), .int (iZ Mmk)]) hm Mx Msz Xf Men3 rfl rfl ⟨by omega, by omega⟩ ⟨by omega, by omega⟩) ci_X12_byteAt qm_X12_118 ⟨Nat.le_of_ble_eq_true rfl, Nat.le_of_ble_eq_true rfl⟩ ⟨Nat.le_of_ble_eq_true rfl, Nat.le_of_ble_eq_true rfl⟩ 0 rfl rfl rfl hl.1 rfl (Nat.le_of_ble_eq_true rfl) dX12_onward_157 ?_
                      have hb_h_22 := tX_rg Xf Msz Men3 (by omega)
                      refine lv_iadd hx hb dX12_onward_160 ?_
                      refine lv_topi (fun x_23 ex_23 => ?_)
                      obtain rfl : x_23 = iZ ((10 * Mva3) + (tX Xf Msz Men3)) := ex_23.trans (iZ_add (10 * Mva3) (tX Xf Msz Men3))
                      refine lv_bipush (v := iZ 48) hx hb dX12_onward_161 (by decide) ?_
                      refine lv_isub hx hb dX12_onward_163 ?_
                      refine lv_topi (fun x_24 ex_24 => ?_)
                      obtain rfl : x_24 = iZ (((10 * Mva3) + (tX Xf Msz Men3)) - 48) := ex_24.trans (iZ_sub ((10 * Mva3) + (tX Xf Msz Men3)) 48)
                      refine va_mmin (rest := [.ref hm]) hx hb (by rw [hml]; exact hl.1.symm) (own := RX12) hown (hts _ qm_X12_137) (hts _ qt_yJ9_min_7cf53) (hts _ qz_J9) (hts _ qc_J9_min_7cf53) (Nat.le_of_ble_eq_true rfl) (Nat.le_of_ble_eq_true rfl) (Nat.le_of_ble_eq_true rfl) (Nat.le_of_ble_eq_true rfl) dX12_onward_164 ?_
                      refine lv_topi (fun x_25 ex_25 => ?_)
                      obtain rfl : x_25 = iZ (min 100000 (((10 * Mva3) + (tX Xf Msz Men3)) - 48)) := ex_25.trans (zmin ⟨by omega, by omega⟩ ⟨by omega, by omega⟩)
                      refine va_put (D := D) (ci := 12) (v := .int (iZ (min 100000 (((10 * Mva3) + (tX Xf Msz Men3)) - 48)))) (ty := .int) (C := RX12) (T := TX12) (N := 36) hx hb hts iX12 tyX12 tyX12_ok nmX12 hown hK hP hD hS 0 rfl rfl 15 (by decide) (hts _ qf_X12_124) (fun _ h => h) rfl (by decide +kernel) rfl rfl (Nat.le_of_ble_eq_true rfl) dX12_onward_167 (fun H locs hP hD hS => ?_)
                      refine lv_aload_n hx hb dX12_onward_170 rfl (lv_at hl 1 rfl) ?_
                      refine lv_dup hx hb dX12_onward_171 rfl ?_
                      refine va_get (D := D) (ci := 12) (v := .int (iZ Men3)) (C := RX12) (T := TX12) (N := 36) hx hb hts iX12 hown hK hP 0 rfl rfl 14 (by decide) (hts _ qf_X12_115) (fun _ h => h) rfl dX12_onward_172 ?_
                      refine lv_iconst (v := iZ 1) hx hb dX12_onward_175 (by decide) ?_
                      refine lv_iadd hx hb dX12_onward_176 ?_
                      refine lv_topi (fun x_26 ex_26 => ?_)
                      obtain rfl : x_26 = iZ (Men3 + 1) := ex_26.trans (iZ_add Men3 1)
                      refine va_put (D := D) (ci := 12) (v := .int (iZ (Men3 + 1))) (ty := .int) (C := RX12) (T := TX12) (N := 36) hx hb hts iX12 tyX12 tyX12_ok nmX12 hown hK hP hD hS 0 rfl rfl 14 (by decide) (hts _ qf_X12_115) (fun _ h => h) rfl (by decide +kernel) rfl rfl (Nat.le_of_ble_eq_true rfl) dX12_onward_177 (fun H locs hP hD hS => ?_)
                      refine lv_goto (tgt := 128) hx hb dX12_onward_180 (by decide) ?_
                      exact ih3  (Men3 + 1) (min 100000 (((10 * Mva3) + (tX Xf Msz Men3)) - 48)) _ _ _ (by omega) (show Men1 ≤ (Men3 + 1) ∧ (Men3 + 1) ≤ Msz from ⟨by omega, by omega⟩) (show ∀ j : Int, Men1 ≤ j → j < (Men3 + 1) → dgB (tX Xf Msz j) from (rn_step hrun3 (show 48 ≤ tX Xf Msz Men3 ∧ tX Xf Msz Men3 ≤ 57 from (by omega)))) (show (Men3 + 1) - Men1 ≤ 4 → (min 100000 (((10 * Mva3) + (tX Xf Msz Men3)) - 48)) = xDv (tX Xf Msz) Men1 ((Men3 + 1) - Men1).toNat from (fun h9 => by have g9 := hv3 (by omega); have k9 := xDv_step (T := tX Xf Msz) (a := Men1) (e := Men3) (by omega) g9; omega)) (show 0 ≤ (min 100000 (((10 * Mva3) + (tX Xf Msz Men3)) - 48)) ∧ (min 100000 (((10 * Mva3) + (tX Xf Msz Men3)) - 48)) ≤ 100000 ∧ ((Men3 + 1) - Men1 ≤ 3 → (min 100000 (((10 * Mva3) + (tX Xf Msz Men3)) - 48)) ≤ 999) ∧ ((Men3 + 1) - Men1 ≤ 2 → (min 100000 (((10 * Mva3) + (tX Xf Msz Men3)) - 48)) ≤ 99) ∧ ((Men3 + 1) - Men1 ≤ 1 → (min 100000 (((10 * Mva3) + (tX Xf Msz Men3)) - 48)) ≤ 9) ∧ ((Men3 + 1) - Men1 ≤ 0 → (min 100000 (((10 * Mva3) + (tX Xf Msz Men3)) - 48)) ≤ 0) from ⟨by omega, by omega, fun _ => by omega, fun _ => by omega, fun _ => by omega, fun _ => by omega⟩) (hP.sub [0, 1] rfl) (hD.sub [0, 1] rfl rfl) hS (lv_sub hl [0, 1] rfl)
                    ·
                      subst qz_19
                      refine lv_if_eq (tgt := 183) hx hb dX12_onward_139 (by decide) (fun _ => ?_) (fun c => absurd (by decide) c)
                      refine lv_aload_n hx hb dX12_onward_183 rfl (lv_at hl 1 rfl) ?_
                      refine lv_aload_n hx hb dX12_onward_184 rfl (lv_at hl 1 rfl) ?_
                      refine va_get (D := D) (ci := 12) (v := .int (iZ Men3)) (C := RX12) (T := TX12) (N := 36) hx hb hts iX12 hown hK hP 0 rfl rfl 14 (by decide) (hts _ qf_X12_115) (fun _ h => h) rfl dX12_onward_185 ?_
                      refine lv_aload_n hx hb dX12_onward_188 rfl (lv_at hl 1 rfl) ?_
                      refine va_get (D := D) (ci := 12) (v := .int (iZ Men1)) (C := RX12) (T := TX12) (N := 36) hx hb hts iX12 hown hK hP 0 rfl rfl 13 (by decide) (hts _ qf_X12_121) (fun _ h => h) rfl dX12_onward_189 ?_
                      refine lv_isub hx hb dX12_onward_192 ?_
                      refine lv_topi (fun x_28 ex_28 => ?_)
                      obtain rfl : x_28 = iZ (Men3 - Men1) := ex_28.trans (iZ_sub Men3 Men1)
                      refine lv_iconst (v := iZ 4) hx hb dX12_onward_193 (by decide) ?_
                      refine lv_icmp_le (tgt := 201) hx hb dX12_onward_194 (by decide) (fun c_29 => ?_) (fun c_29 => ?_)
                      ·
                        have c_29 := (zle (x := iZ (Men3 - Men1)) (y := iZ 4) rfl rfl ⟨by omega, by omega⟩ ⟨by omega, by omega⟩).mp c_29
                        refine lv_iconst (v := iZ 3) hx hb dX12_onward_201 (by decide) ?_
                        refine va_put (D := D) (ci := 12) (v := .int (iZ 3)) (ty := .int) (C := RX12) (T := TX12) (N := 36) hx hb hts iX12 tyX12 tyX12_ok nmX12 hown hK hP hD hS 0 rfl rfl 12 (by decide) (hts _ qf_X12_127) (fun _ h => h) rfl (by decide +kernel) rfl rfl (Nat.le_of_ble_eq_true rfl) dX12_onward_202 (fun H locs hP hD hS => ?_)
                        refine lv_goto (tgt := 251) hx hb dX12_onward_205 (by decide) ?_
                        have hdg : dgB (tX Xf Msz Men1) := (show 48 ≤ tX Xf Msz Men1 ∧ tX Xf Msz Men1 ≤ 57 from (by omega))
                        have hr1 : isRn dgB (tX Xf Msz) Men1 Men3 := ⟨by omega, hrun3, (show ¬ (48 ≤ tX Xf Msz Men3 ∧ tX Xf Msz Men3 ≤ 57) from (by omega))⟩
                        have tk := tk_num hpl hdg hr1
                        have hlt9 := rn_lt hr1 hdg
                        exact EWv hx hb hr hlocks hS (fun i => [0, 3, Men1, Men3, Mva3].getD i 0, fun i => [0].getD i 0, fun i => [].getD i (fun _ => 0), fun i => [].getD i (fun _ => 0)) rfl ⟨(show RFX (tX Xf Msz) Men Men1 Men3 3 Mva3 from ⟨⟨by omega, hpl⟩, tk.1.symm, (by rw [tk.2.1, if_neg (by omega)]; rfl), (fun _ => by rw [tk.2.2.2]; exact hv3 (by omega)), (fun h => absurd h (by omega)), Or.inr (rn_lt hr1 hdg)⟩), (show (0 ≤ (Men1 : Int) ∧ (Men1 : Int) ≤ Men3) ∧ ((Men3 : Int) ≤ Msz ∧ (Msz : Int) ≤ 900) ∧ (0 ≤ (3 : Int) ∧ (3 : Int) ≤ 4) ∧ ((3 : Int) = 0 ∨ (Men1 : Int) < Men3) ∧ (-1 ≤ (Mva3 : Int) ∧ (Mva3 : Int) ≤ 100000) from ⟨⟨by omega, by omega⟩, ⟨by omega, by omega⟩, ⟨by omega, by omega⟩, by omega, by omega, by omega⟩), (show Men ≤ Men1 from (by omega))⟩ (hP.sub [0, 1] rfl) (hD.sub [0, 1] rfl rfl) dX12_onward_251
                      ·
                        have c_29 := mt (zle (x := iZ (Men3 - Men1)) (y := iZ 4) rfl rfl ⟨by omega, by omega⟩ ⟨by omega, by omega⟩).mpr c_29
                        refine lv_iconst (v := iZ 1) hx hb dX12_onward_197 (by decide) ?_
                        refine lv_goto (tgt := 202) hx hb dX12_onward_198 (by decide) ?_
                        refine va_put (D := D) (ci := 12) (v := .int (iZ 1)) (ty := .int) (C := RX12) (T := TX12) (N := 36) hx hb hts iX12 tyX12 tyX12_ok nmX12 hown hK hP hD hS 0 rfl rfl 12 (by decide) (hts _ qf_X12_127) (fun _ h => h) rfl (by decide +kernel) rfl rfl (Nat.le_of_ble_eq_true rfl) dX12_onward_202 (fun H locs hP hD hS => ?_)
                        refine lv_goto (tgt := 251) hx hb dX12_onward_205 (by decide) ?_
                        have hdg : dgB (tX Xf Msz Men1) := (show 48 ≤ tX Xf Msz Men1 ∧ tX Xf Msz Men1 ≤ 57 from (by omega))
                        have hr1 : isRn dgB (tX Xf Msz) Men1 Men3 := ⟨by omega, hrun3, (show ¬ (48 ≤ tX Xf Msz Men3 ∧ tX Xf Msz Men3 ≤ 57) from (by omega))⟩
                        have tk := tk_num hpl hdg hr1
                        have hlt9 := rn_lt hr1 hdg
                        exact EWv hx hb hr hlocks hS (fun i => [0, 1, Men1, Men3, Mva3].getD i 0, fun i => [0].getD i 0, fun i => [].getD i (fun _ => 0), fun i => [].getD i (fun _ => 0)) rfl ⟨(show RFX (tX Xf Msz) Men Men1 Men3 1 Mva3 from ⟨⟨by omega, hpl⟩, tk.1.symm, (by rw [tk.2.1, if_pos (by omega)]; rfl), (fun h => absurd h (by omega)), (fun h => absurd h (by omega)), Or.inr (rn_lt hr1 hdg)⟩), (show (0 ≤ (Men1 : Int) ∧ (Men1 : Int) ≤ Men3) ∧ ((Men3 : Int) ≤ Msz ∧ (Msz : Int) ≤ 900) ∧ (0 ≤ (1 : Int) ∧ (1 : Int) ≤ 4) ∧ ((1 : Int) = 0 ∨ (Men1 : Int) < Men3) ∧ (-1 ≤ (Mva3 : Int) ∧ (Mva3 : Int) ≤ 100000) from ⟨⟨by omega, by omega⟩, ⟨by omega, by omega⟩, ⟨by omega, by omega⟩, by omega, by omega, by omega⟩), (show Men ≤ Men1 from (by omega))⟩ (hP.sub [0, 1] rfl) (hD.sub [0, 1] rfl rfl) dX12_onward_251
                exact HL3 902 Men1 0 _ _ _ (by omega) (show Men1 ≤ Men1 ∧ Men1 ≤ Msz from ⟨by omega, by omega⟩) (show ∀ j : Int, Men1 ≤ j → j < Men1 → dgB (tX Xf Msz j) from rn_none) (show Men1 - Men1 ≤ 4 → 0 = xDv (tX Xf Msz) Men1 (Men1 - Men1).toNat from (fun _ => xDv_0.symm)) (show 0 ≤ 0 ∧ 0 ≤ 100000 ∧ (Men1 - Men1 ≤ 3 → 0 ≤ 999) ∧ (Men1 - Men1 ≤ 2 → 0 ≤ 99) ∧ (Men1 - Men1 ≤ 1 → 0 ≤ 9) ∧ (Men1 - Men1 ≤ 0 → 0 ≤ 0) from ⟨by omega, by omega, fun _ => by omega, fun _ => by omega, fun _ => by omega, fun _ => by omega⟩) (hP.sub [0, 1] rfl) (hD.sub [0, 1] rfl rfl) hS (lv_sub hl [0, 1] rfl)
              ·
                subst qz_16
                refine lv_if_eq (tgt := 208) hx hb dX12_onward_120 (by decide) (fun _ => ?_) (fun c => absurd (by decide) c)
                refine lv_aload_n hx hb dX12_onward_208 rfl (lv_at hl 1 rfl) ?_
                refine lv_dup hx hb dX12_onward_209 rfl ?_
                refine va_get (D := D) (ci := 12) (v := .int (iZ Men1)) (C := RX12) (T := TX12) (N := 36) hx hb hts iX12 hown hK hP 0 rfl rfl 14 (by decide) (hts _ qf_X12_115) (fun _ h => h) rfl dX12_onward_210 ?_
                refine lv_iconst (v := iZ 1) hx hb dX12_onward_213 (by decide) ?_
                refine lv_iadd hx hb dX12_onward_214 ?_
                refine lv_topi (fun x_31 ex_31 => ?_)
                obtain rfl : x_31 = iZ (Men1 + 1) := ex_31.trans (iZ_add Men1 1)
                refine va_put (D := D) (ci := 12) (v := .int (iZ (Men1 + 1))) (ty := .int) (C := RX12) (T := TX12) (N := 36) hx hb hts iX12 tyX12 tyX12_ok nmX12 hown hK hP hD hS 0 rfl rfl 14 (by decide) (hts _ qf_X12_115) (fun _ h => h) rfl (by decide +kernel) rfl rfl (Nat.le_of_ble_eq_true rfl) dX12_onward_215 (fun H locs hP hD hS => ?_)
                refine lv_aload_n hx hb dX12_onward_218 rfl (lv_at hl 1 rfl) ?_
                refine lv_iload_n hx hb dX12_onward_219 rfl (lv_at hl 0 rfl) ?_
                refine lv_bipush (v := iZ 59) hx hb dX12_onward_220 (by decide) ?_
                refine lv_icmp_eq (tgt := 243) hx hb dX12_onward_222 (by decide) (fun c_32 => ?_) (fun c_32 => ?_)
                ·
                  have c_32 := (zeq (x := iZ (tX Xf Msz Men1)) (y := iZ 59) rfl rfl ⟨by omega, by omega⟩ ⟨by omega, by omega⟩).mp c_32
                  refine lv_iconst (v := iZ 4) hx hb dX12_onward_243 (by decide) ?_
                  refine lv_goto (tgt := 248) hx hb dX12_onward_244 (by decide) ?_
                  refine va_put (D := D) (ci := 12) (v := .int (iZ 4)) (ty := .int) (C := RX12) (T := TX12) (N := 36) hx hb hts iX12 tyX12 tyX12_ok nmX12 hown hK hP hD hS 0 rfl rfl 12 (by decide) (hts _ qf_X12_127) (fun _ h => h) rfl (by decide +kernel) rfl rfl (Nat.le_of_ble_eq_true rfl) dX12_onward_248 (fun H locs hP hD hS => ?_)
                  have tk := tk_sign hpl (show ¬ tX Xf Msz Men1 = -1 from (by omega)) (show ¬ (97 ≤ tX Xf Msz Men1 ∧ tX Xf Msz Men1 ≤ 122) from (by omega)) (show ¬ (48 ≤ tX Xf Msz Men1 ∧ tX Xf Msz Men1 ≤ 57) from (by omega))
                  exact EWv hx hb hr hlocks hS (fun i => [0, 4, Men1, (Men1 + 1), (tX Xf Msz Men1)].getD i 0, fun i => [0].getD i 0, fun i => [].getD i (fun _ => 0), fun i => [].getD i (fun _ => 0)) rfl ⟨(show RFX (tX Xf Msz) Men Men1 (Men1 + 1) 4 (tX Xf Msz Men1) from ⟨⟨by omega, hpl⟩, tk.1.symm, (by rw [tk.2.1, if_pos (by omega)]; rfl), (fun _ => tk.2.2.2.symm), (fun h => absurd h (by omega)), Or.inr (by omega)⟩), (show (0 ≤ (Men1 : Int) ∧ (Men1 : Int) ≤ (Men1 + 1)) ∧ (((Men1 + 1) : Int) ≤ Msz ∧ (Msz : Int) ≤ 900) ∧ (0 ≤ (4 : Int) ∧ (4 : Int) ≤ 4) ∧ ((4 : Int) = 0 ∨ (Men1 : Int) < (Men1 + 1)) ∧ (-1 ≤ ((tX Xf Msz Men1) : Int) ∧ ((tX Xf Msz Men1) : Int) ≤ 100000) from ⟨⟨by omega, by omega⟩, ⟨by omega, by omega⟩, ⟨by omega, by omega⟩, by omega, by omega, by omega⟩), (show Men ≤ Men1 from (by omega))⟩ (hP.sub [0, 1] rfl) (hD.sub [0, 1] rfl rfl) dX12_onward_251
                ·
                  have c_32 := mt (zeq (x := iZ (tX Xf Msz Men1)) (y := iZ 59) rfl rfl ⟨by omega, by omega⟩ ⟨by omega, by omega⟩).mpr c_32
                  refine lv_iload_n hx hb dX12_onward_225 rfl (lv_at hl 0 rfl) ?_
                  refine lv_bipush (v := iZ 60) hx hb dX12_onward_226 (by decide) ?_
                  refine lv_icmp_eq (tgt := 243) hx hb dX12_onward_228 (by decide) (fun c_33 => ?_) (fun c_33 => ?_)
                  ·
                    have c_33 := (zeq (x := iZ (tX Xf Msz Men1)) (y := iZ 60) rfl rfl ⟨by omega, by omega⟩ ⟨by omega, by omega⟩).mp c_33
                    refine lv_iconst (v := iZ 4) hx hb dX12_onward_243 (by decide) ?_
                    refine lv_goto (tgt := 248) hx hb dX12_onward_244 (by decide) ?_
                    refine va_put (D := D) (ci := 12) (v := .int (iZ 4)) (ty := .int) (C := RX12) (T := TX12) (N := 36) hx hb hts iX12 tyX12 tyX12_ok nmX12 hown hK hP hD hS 0 rfl rfl 12 (by decide) (hts _ qf_X12_127) (fun _ h => h) rfl (by decide +kernel) rfl rfl (Nat.le_of_ble_eq_true rfl) dX12_onward_248 (fun H locs hP hD hS => ?_)
                    have tk := tk_sign hpl (show ¬ tX Xf Msz Men1 = -1 from (by omega)) (show ¬ (97 ≤ tX Xf Msz Men1 ∧ tX Xf Msz Men1 ≤ 122) from (by omega)) (show ¬ (48 ≤ tX Xf Msz Men1 ∧ tX Xf Msz Men1 ≤ 57) from (by omega))
                    exact EWv hx hb hr hlocks hS (fun i => [0, 4, Men1, (Men1 + 1), (tX Xf Msz Men1)].getD i 0, fun i => [0].getD i 0, fun i => [].getD i (fun _ => 0), fun i => [].getD i (fun _ => 0)) rfl ⟨(show RFX (tX Xf Msz) Men Men1 (Men1 + 1) 4 (tX Xf Msz Men1) from ⟨⟨by omega, hpl⟩, tk.1.symm, (by rw [tk.2.1, if_pos (by omega)]; rfl), (fun _ => tk.2.2.2.symm), (fun h => absurd h (by omega)), Or.inr (by omega)⟩), (show (0 ≤ (Men1 : Int) ∧ (Men1 : Int) ≤ (Men1 + 1)) ∧ (((Men1 + 1) : Int) ≤ Msz ∧ (Msz : Int) ≤ 900) ∧ (0 ≤ (4 : Int) ∧ (4 : Int) ≤ 4) ∧ ((4 : Int) = 0 ∨ (Men1 : Int) < (Men1 + 1)) ∧ (-1 ≤ ((tX Xf Msz Men1) : Int) ∧ ((tX Xf Msz Men1) : Int) ≤ 100000) from ⟨⟨by omega, by omega⟩, ⟨by omega, by omega⟩, ⟨by omega, by omega⟩, by omega, by omega, by omega⟩), (show Men ≤ Men1 from (by omega))⟩ (hP.sub [0, 1] rfl) (hD.sub [0, 1] rfl rfl) dX12_onward_251
                  ·
                    have c_33 := mt (zeq (x := iZ (tX Xf Msz Men1)) (y := iZ 60) rfl rfl ⟨by omega, by omega⟩ ⟨by omega, by omega⟩).mpr c_33
                    refine lv_iload_n hx hb dX12_onward_231 rfl (lv_at hl 0 rfl) ?_
                    refine lv_bipush (v := iZ 62) hx hb dX12_onward_232 (by decide) ?_
                    refine lv_icmp_eq (tgt := 243) hx hb dX12_onward_234 (by decide) (fun c_34 => ?_) (fun c_34 => ?_)
                    ·
                      have c_34 := (zeq (x := iZ (tX Xf Msz Men1)) (y := iZ 62) rfl rfl ⟨by omega, by omega⟩ ⟨by omega, by omega⟩).mp c_34
                      refine lv_iconst (v := iZ 4) hx hb dX12_onward_243 (by decide) ?_
                      refine lv_goto (tgt := 248) hx hb dX12_onward_244 (by decide) ?_
                      refine va_put (D := D) (ci := 12) (v := .int (iZ 4)) (ty := .int) (C := RX12) (T := TX12) (N := 36) hx hb hts iX12 tyX12 tyX12_ok nmX12 hown hK hP hD hS 0 rfl rfl 12 (by decide) (hts _ qf_X12_127) (fun _ h => h) rfl (by decide +kernel) rfl rfl (Nat.le_of_ble_eq_true rfl) dX12_onward_248 (fun H locs hP hD hS => ?_)
                      have tk := tk_sign hpl (show ¬ tX Xf Msz Men1 = -1 from (by omega)) (show ¬ (97 ≤ tX Xf Msz Men1 ∧ tX Xf Msz Men1 ≤ 122) from (by omega)) (show ¬ (48 ≤ tX Xf Msz Men1 ∧ tX Xf Msz Men1 ≤ 57) from (by omega))
                      exact EWv hx hb hr hlocks hS (fun i => [0, 4, Men1, (Men1 + 1), (tX Xf Msz Men1)].getD i 0, fun i => [0].getD i 0, fun i => [].getD i (fun _ => 0), fun i => [].getD i (fun _ => 0)) rfl ⟨(show RFX (tX Xf Msz) Men Men1 (Men1 + 1) 4 (tX Xf Msz Men1) from ⟨⟨by omega, hpl⟩, tk.1.symm, (by rw [tk.2.1, if_pos (by omega)]; rfl), (fun _ => tk.2.2.2.symm), (fun h => absurd h (by omega)), Or.inr (by omega)⟩), (show (0 ≤ (Men1 : Int) ∧ (Men1 : Int) ≤ (Men1 + 1)) ∧ (((Men1 + 1) : Int) ≤ Msz ∧ (Msz : Int) ≤ 900) ∧ (0 ≤ (4 : Int) ∧ (4 : Int) ≤ 4) ∧ ((4 : Int) = 0 ∨ (Men1 : Int) < (Men1 + 1)) ∧ (-1 ≤ ((tX Xf Msz Men1) : Int) ∧ ((tX Xf Msz Men1) : Int) ≤ 100000) from ⟨⟨by omega, by omega⟩, ⟨by omega, by omega⟩, ⟨by omega, by omega⟩, by omega, by omega, by omega⟩), (show Men ≤ Men1 from (by omega))⟩ (hP.sub [0, 1] rfl) (hD.sub [0, 1] rfl rfl) dX12_onward_251
                    ·
                      have c_34 := mt (zeq (x := iZ (tX Xf Msz Men1)) (y := iZ 62) rfl rfl ⟨by omega, by omega⟩ ⟨by omega, by omega⟩).mpr c_34
                      refine lv_iload_n hx hb dX12_onward_237 rfl (lv_at hl 0 rfl) ?_
                      refine lv_bipush (v := iZ 61) hx hb dX12_onward_238 (by decide) ?_
                      refine lv_icmp_ne (tgt := 247) hx hb dX12_onward_240 (by decide) (fun c_35 => ?_) (fun c_35 => ?_)
                      ·
                        have c_35 := mt (zeq (x := iZ (tX Xf Msz Men1)) (y := iZ 61) rfl rfl ⟨by omega, by omega⟩ ⟨by omega, by omega⟩).mpr c_35
                        refine lv_iconst (v := iZ 1) hx hb dX12_onward_247 (by decide) ?_
                        refine va_put (D := D) (ci := 12) (v := .int (iZ 1)) (ty := .int) (C := RX12) (T := TX12) (N := 36) hx hb hts iX12 tyX12 tyX12_ok nmX12 hown hK hP hD hS 0 rfl rfl 12 (by decide) (hts _ qf_X12_127) (fun _ h => h) rfl (by decide +kernel) rfl rfl (Nat.le_of_ble_eq_true rfl) dX12_onward_248 (fun H locs hP hD hS => ?_)
                        have tk := tk_sign hpl (show ¬ tX Xf Msz Men1 = -1 from (by omega)) (show ¬ (97 ≤ tX Xf Msz Men1 ∧ tX Xf Msz Men1 ≤ 122) from (by omega)) (show ¬ (48 ≤ tX Xf Msz Men1 ∧ tX Xf Msz Men1 ≤ 57) from (by omega))
                        exact EWv hx hb hr hlocks hS (fun i => [0, 1, Men1, (Men1 + 1), (tX Xf Msz Men1)].getD i 0, fun i => [0].getD i 0, fun i => [].getD i (fun _ => 0), fun i => [].getD i (fun _ => 0)) rfl ⟨(show RFX (tX Xf Msz) Men Men1 (Men1 + 1) 1 (tX Xf Msz Men1) from ⟨⟨by omega, hpl⟩, tk.1.symm, (by rw [tk.2.1, if_neg (by omega)]; rfl), (fun _ => tk.2.2.2.symm), (fun h => absurd h (by omega)), Or.inr (by omega)⟩), (show (0 ≤ (Men1 : Int) ∧ (Men1 : Int) ≤ (Men1 + 1)) ∧ (((Men1 + 1) : Int) ≤ Msz ∧ (Msz : Int) ≤ 900) ∧ (0 ≤ (1 : Int) ∧ (1 : Int) ≤ 4) ∧ ((1 : Int) = 0 ∨ (Men1 : Int) < (Men1 + 1)) ∧ (-1 ≤ ((tX Xf Msz Men1) : Int) ∧ ((tX Xf Msz Men1) : Int) ≤ 100000) from ⟨⟨by omega, by omega⟩, ⟨by omega, by omega⟩, ⟨by omega, by omega⟩, by omega, by omega, by omega⟩), (show Men ≤ Men1 from (by omega))⟩ (hP.sub [0, 1] rfl) (hD.sub [0, 1] rfl rfl) dX12_onward_251
                      ·
                        have c_35 := (zeq (x := iZ (tX Xf Msz Men1)) (y := iZ 61) rfl rfl ⟨by omega, by omega⟩ ⟨by omega, by omega⟩).mp c_35
                        refine lv_iconst (v := iZ 4) hx hb dX12_onward_243 (by decide) ?_
                        refine lv_goto (tgt := 248) hx hb dX12_onward_244 (by decide) ?_
                        refine va_put (D := D) (ci := 12) (v := .int (iZ 4)) (ty := .int) (C := RX12) (T := TX12) (N := 36) hx hb hts iX12 tyX12 tyX12_ok nmX12 hown hK hP hD hS 0 rfl rfl 12 (by decide) (hts _ qf_X12_127) (fun _ h => h) rfl (by decide +kernel) rfl rfl (Nat.le_of_ble_eq_true rfl) dX12_onward_248 (fun H locs hP hD hS => ?_)
                        have tk := tk_sign hpl (show ¬ tX Xf Msz Men1 = -1 from (by omega)) (show ¬ (97 ≤ tX Xf Msz Men1 ∧ tX Xf Msz Men1 ≤ 122) from (by omega)) (show ¬ (48 ≤ tX Xf Msz Men1 ∧ tX Xf Msz Men1 ≤ 57) from (by omega))
                        exact EWv hx hb hr hlocks hS (fun i => [0, 4, Men1, (Men1 + 1), (tX Xf Msz Men1)].getD i 0, fun i => [0].getD i 0, fun i => [].getD i (fun _ => 0), fun i => [].getD i (fun _ => 0)) rfl ⟨(show RFX (tX Xf Msz) Men Men1 (Men1 + 1) 4 (tX Xf Msz Men1) from ⟨⟨by omega, hpl⟩, tk.1.symm, (by rw [tk.2.1, if_pos (by omega)]; rfl), (fun _ => tk.2.2.2.symm), (fun h => absurd h (by omega)), Or.inr (by omega)⟩), (show (0 ≤ (Men1 : Int) ∧ (Men1 : Int) ≤ (Men1 + 1)) ∧ (((Men1 + 1) : Int) ≤ Msz ∧ (Msz : Int) ≤ 900) ∧ (0 ≤ (4 : Int) ∧ (4 : Int) ≤ 4) ∧ ((4 : Int) = 0 ∨ (Men1 : Int) < (Men1 + 1)) ∧ (-1 ≤ ((tX Xf Msz Men1) : Int) ∧ ((tX Xf Msz Men1) : Int) ≤ 100000) from ⟨⟨by omega, by omega⟩, ⟨by omega, by omega⟩, ⟨by omega, by omega⟩, by omega, by omega, by omega⟩), (show Men ≤ Men1 from (by omega))⟩ (hP.sub [0, 1] rfl) (hD.sub [0, 1] rfl rfl) dX12_onward_251
          ·
            have c_7 := (zeq (x := iZ (tX Xf Msz Men1)) (y := iZ (-1)) rfl rfl ⟨by omega, by omega⟩ ⟨by omega, by omega⟩).mp c_7
            refine lv_aload_n hx hb dX12_onward_66 rfl (lv_at hl 1 rfl) ?_
            refine lv_iconst (v := iZ 0) hx hb dX12_onward_67 (by decide) ?_
            refine va_put (D := D) (ci := 12) (v := .int (iZ 0)) (ty := .int) (C := RX12) (T := TX12) (N := 36) hx hb hts iX12 tyX12 tyX12_ok nmX12 hown hK hP hD hS 0 rfl rfl 12 (by decide) (hts _ qf_X12_127) (fun _ h => h) rfl (by decide +kernel) rfl rfl (Nat.le_of_ble_eq_true rfl) dX12_onward_68 (fun H locs hP hD hS => ?_)
            refine lv_goto (tgt := 251) hx hb dX12_onward_71 (by decide) ?_
            have tk := tk_end hpl (show tX Xf Msz Men1 = -1 from (by omega))
            exact EWv hx hb hr hlocks hS (fun i => [0, 0, Men1, Men1, (tX Xf Msz Men1)].getD i 0, fun i => [0].getD i 0, fun i => [].getD i (fun _ => 0), fun i => [].getD i (fun _ => 0)) rfl ⟨(show RFX (tX Xf Msz) Men Men1 Men1 0 (tX Xf Msz Men1) from ⟨⟨by omega, hpl⟩, tk.1.symm, (by rw [tk.2.1]; rfl), (fun h => absurd h (by omega)), (fun h => absurd h (by omega)), Or.inl rfl⟩), (show (0 ≤ (Men1 : Int) ∧ (Men1 : Int) ≤ Men1) ∧ ((Men1 : Int) ≤ Msz ∧ (Msz : Int) ≤ 900) ∧ (0 ≤ (0 : Int) ∧ (0 : Int) ≤ 4) ∧ ((0 : Int) = 0 ∨ (Men1 : Int) < Men1) ∧ (-1 ≤ ((tX Xf Msz Men1) : Int) ∧ ((tX Xf Msz Men1) : Int) ≤ 100000) from ⟨⟨by omega, by omega⟩, ⟨by omega, by omega⟩, ⟨by omega, by omega⟩, by omega, by omega, by omega⟩), (show Men ≤ Men1 from (by omega))⟩ (hP.sub [0, 1] rfl) (hD.sub [0, 1] rfl rfl) dX12_onward_251
        ·
          have c_5 := (zeq (x := iZ (tX Xf Msz Men1)) (y := iZ 10) rfl rfl ⟨by omega, by omega⟩ ⟨by omega, by omega⟩).mp c_5
          refine lv_aload_n hx hb dX12_onward_26 rfl (lv_at hl 0 rfl) ?_
          refine lv_dup hx hb dX12_onward_27 rfl ?_
          refine va_get (D := D) (ci := 12) (v := .int (iZ Men1)) (C := RX12) (T := TX12) (N := 36) hx hb hts iX12 hown hK hP 0 rfl rfl 14 (by decide) (hts _ qf_X12_115) (fun _ h => h) rfl dX12_onward_28 ?_
          refine lv_iconst (v := iZ 1) hx hb dX12_onward_31 (by decide) ?_
          refine lv_iadd hx hb dX12_onward_32 ?_
          refine lv_topi (fun x_36 ex_36 => ?_)
          obtain rfl : x_36 = iZ (Men1 + 1) := ex_36.trans (iZ_add Men1 1)
          refine va_put (D := D) (ci := 12) (v := .int (iZ (Men1 + 1))) (ty := .int) (C := RX12) (T := TX12) (N := 36) hx hb hts iX12 tyX12 tyX12_ok nmX12 hown hK hP hD hS 0 rfl rfl 14 (by decide) (hts _ qf_X12_115) (fun _ h => h) rfl (by decide +kernel) rfl rfl (Nat.le_of_ble_eq_true rfl) dX12_onward_33 (fun H locs hP hD hS => ?_)
          refine lv_goto (tgt := 0) hx hb dX12_onward_36 (by decide) ?_
          exact ih1  (Men1 + 1) _ _ _ (by omega) (show Men ≤ (Men1 + 1) ∧ (Men1 + 1) ≤ Msz from ⟨by omega, by omega⟩) (show ∀ j : Int, Men ≤ j → j < (Men1 + 1) → wsB (tX Xf Msz j) from (rn_step hrun (show tX Xf Msz Men1 = 32 ∨ tX Xf Msz Men1 = 10 from (by omega)))) (hP.sub [0, 1] rfl) (hD.sub [0, 1] rfl rfl) hS (lv_sub hl [0] rfl)
  exact HL1 902 Men _ _ _ (by omega) (show Men ≤ Men ∧ Men ≤ Msz from ⟨by omega, by omega⟩) (show ∀ j : Int, Men ≤ j → j < Men → wsB (tX Xf Msz j) from rn_none) (hP.sub [0, 1] rfl) (hD.sub [0, 1] rfl rfl) hS (lv_sub hl [0] rfl)
set_option maxHeartbeats 4000000 in
set_option maxRecDepth 100000 in
theorem y_fails (l : Launch) (D : va_G) (k : Nat → ClassId) (hm : Nat) (Ma : Nat) (Mn : Nat) (Ms : Nat) (My : Nat) (Mt : Nat) (Mp : Nat) (Mx : Nat) (Mo : Nat) (Mk : Nat) (Ml : Nat) (Mb : Nat) (Mh : Nat) (Mc : Nat) (Mz : Nat) (Mr : Nat) (Mq : Nat) (Mst : Int) (Mtd : Int) (Msz : Int) (Mtk : Int) (Mfr : Int) (Men : Int) (Mva : Int) (Mfk : Int) (Mfp : Int) (Mfs : Int) (Mse : Int) (Mlt : Int) (Mdp : Int) (Mct : Int) (Mdr : Int) (Mrs : Int) (Mit : Int) (Mmk : Int) (Mtp : Int64) (Mbt : Int64) (Xf : Nat → Int32) (x : Int) (cu : Int) (h9x : 1 ≤ (x : Int) ∧ x ≤ 9) (hf0 : Mfs = 0) (hrf : RFX (tX Xf Msz) cu Mfr Men Mtk Mva) : WD (σ := ((Nat → Int) × (Nat → Int64) × (Nat → Nat → Int32) × (Nat → Nat → Int64))) l yX12_fails cX12_fails 2 (some .boolean) 0 0 0 D k [.ref hm, .int (iZ x)] [(hm, .inr (12, [.ref Ma, .ref Mn, .int (iZ Mst), .long Mtp, .long Mbt, .ref Ms, .ref My, .ref Mt, .ref Mp, .ref Mx, .int (iZ Mtd), .int (iZ Msz), .int (iZ Mtk), .int (iZ Mfr), .int (iZ Men), .int (iZ Mva), .int (iZ Mfk), .int (iZ Mfp), .int (iZ Mfs), .int (iZ Mse), .int (iZ Mlt), .ref Mo, .int (iZ Mdp), .int (iZ Mct), .ref Mk, .ref Ml, .ref Mb, .ref Mh, .ref Mc, .int (iZ Mdr), .int (iZ Mrs), .ref Mz, .ref Mr, .ref Mq, .int (iZ Mit), .int (iZ Mmk)])), (Mx, .inl (k 0, 900, .inl Xf))] (fun _ => some (.int (iZ 0))) (fun u => ((u.1 1) = xFl (tX Xf Msz) cu x ∧ (u.1 2) = xPl (tX Xf Msz) cu) ∧ (1 ≤ ((u.1 1) : Int) ∧ ((u.1 1) : Int) ≤ 9)) (fun u => [(hm, .inr (12, [.ref Ma, .ref Mn, .int (iZ Mst), .long Mtp, .long Mbt, .ref Ms, .ref My, .ref Mt, .ref Mp, .ref Mx, .int (iZ Mtd), .int (iZ Msz), .int (iZ Mtk), .int (iZ Mfr), .int (iZ Men), .int (iZ Mva), .int (iZ Mfk), .int (iZ (u.1 2)), .int (iZ (u.1 1)), .int (iZ Mse), .int (iZ Mlt), .ref Mo, .int (iZ Mdp), .int (iZ Mct), .ref Mk, .ref Ml, .ref Mb, .ref Mh, .ref Mc, .int (iZ Mdr), .int (iZ Mrs), .ref Mz, .ref Mr, .ref Mq, .int (iZ Mit), .int (iZ Mmk)])), (Mx, .inl (k 0, 900, .inl Xf))]) := by
  refine MW (by decide) (Nat.le_of_ble_eq_true rfl) (fun p e s m below meth c ls A hx hb hml hr hlocks hin hts hown hKK hP hD hS hA hl => ?_)
  have hK := hKK.1
  have hl : lv_has ls 2 [(0, .ref hm), (1, .int (iZ x))] := hl
  obtain ⟨⟨ar_1, br_1⟩, cr_1, dr_1, er_1, gr_1, hr_1⟩ := id hrf
  have kr_1 := tk_1 dr_1 (xKd_rg _ _)
  have wr_1 := xKw_rg (tX Xf Msz) cu
  refine lv_aload_n hx hb dX12_fails_0 rfl (lv_at hl 0 rfl) ?_
  refine va_get (D := D) (ci := 12) (v := .int (iZ Mfs)) (C := RX12) (T := TX12) (N := 36) hx hb hts iX12 hown hK hP 0 rfl rfl 18 (by decide) (hts _ qf_X12_152) (fun _ h => h) rfl dX12_fails_1 ?_
  refine lv_if_ne (tgt := 32) hx hb dX12_fails_4 (by decide) (fun c_2 => ?_) (fun c_2 => ?_)
  ·
    have c_2 := mt (zeq (x := iZ Mfs) (y := iZ 0) rfl rfl ⟨by omega, by omega⟩ ⟨by omega, by omega⟩).mpr c_2
    refine lv_iconst (v := iZ 0) hx hb dX12_fails_32 (by decide) ?_
    exact EWz hx hb hr hlocks hS (fun i => [0, Mfs, Mfp].getD i 0, fun i => [0].getD i 0, fun i => [].getD i (fun _ => 0), fun i => [].getD i (fun _ => 0)) rfl rfl ⟨(show Mfs = xFl (tX Xf Msz) cu x ∧ Mfp = xPl (tX Xf Msz) cu from ⟨by omega, by omega⟩), (show 1 ≤ (Mfs : Int) ∧ (Mfs : Int) ≤ 9 from (by omega))⟩ (hP.sub [0, 1] rfl) (hD.sub [0, 1] rfl rfl) dX12_fails_33
  ·
    have c_2 := (zeq (x := iZ Mfs) (y := iZ 0) rfl rfl ⟨by omega, by omega⟩ ⟨by omega, by omega⟩).mp c_2
    refine lv_aload_n hx hb dX12_fails_7 rfl (lv_at hl 0 rfl) ?_
    refine lv_aload_n hx hb dX12_fails_8 rfl (lv_at hl 0 rfl) ?_
    refine va_get (D := D) (ci := 12) (v := .int (iZ Mtk)) (C := RX12) (T := TX12) (N := 36) hx hb hts iX12 hown hK hP 0 rfl rfl 12 (by decide) (hts _ qf_X12_127) (fun _ h => h) rfl dX12_fails_9 ?_
    refine lv_iconst (v := iZ 1) hx hb dX12_fails_12 (by decide) ?_
    refine lv_icmp_ne (tgt := 20) hx hb dX12_fails_13 (by decide) (fun c_3 => ?_) (fun c_3 => ?_)
    ·
      have c_3 := mt (zeq (x := iZ Mtk) (y := iZ 1) rfl rfl ⟨by omega, by omega⟩ ⟨by omega, by omega⟩).mpr c_3
      refine lv_iload_n hx hb dX12_fails_20 rfl (lv_at hl 1 rfl) ?_
      refine va_put (D := D) (ci := 12) (v := .int (iZ x)) (ty := .int) (C := RX12) (T := TX12) (N := 36) hx hb hts iX12 tyX12 tyX12_ok nmX12 hown hK hP hD hS 0 rfl rfl 18 (by decide) (hts _ qf_X12_152) (fun _ h => h) rfl (by decide +kernel) rfl rfl (Nat.le_of_ble_eq_true rfl) dX12_fails_21 (fun H locs hP hD hS => ?_)
      refine lv_aload_n hx hb dX12_fails_24 rfl (lv_at hl 0 rfl) ?_
      refine lv_aload_n hx hb dX12_fails_25 rfl (lv_at hl 0 rfl) ?_
      refine va_get (D := D) (ci := 12) (v := .int (iZ Mfr)) (C := RX12) (T := TX12) (N := 36) hx hb hts iX12 hown hK hP 0 rfl rfl 13 (by decide) (hts _ qf_X12_121) (fun _ h => h) rfl dX12_fails_26 ?_
      refine va_put (D := D) (ci := 12) (v := .int (iZ Mfr)) (ty := .int) (C := RX12) (T := TX12) (N := 36) hx hb hts iX12 tyX12 tyX12_ok nmX12 hown hK hP hD hS 0 rfl rfl 17 (by decide) (hts _ qf_X12_41) (fun _ h => h) rfl (by decide +kernel) rfl rfl (Nat.le_of_ble_eq_true rfl) dX12_fails_29 (fun H locs hP hD hS => ?_)
      refine lv_iconst (v := iZ 0) hx hb dX12_fails_32 (by decide) ?_
      exact EWz hx hb hr hlocks hS (fun i => [0, x, Mfr].getD i 0, fun i => [0].getD i 0, fun i => [].getD i (fun _ => 0), fun i => [].getD i (fun _ => 0)) rfl rfl ⟨(show x = xFl (tX Xf Msz) cu x ∧ Mfr = xPl (tX Xf Msz) cu from ⟨by unfold xFl; rw [if_neg (by omega)], by omega⟩), (show 1 ≤ (x : Int) ∧ (x : Int) ≤ 9 from (by omega))⟩ (hP.sub [0, 1] rfl) (hD.sub [0, 1] rfl rfl) dX12_fails_33
    ·
      have c_3 := (zeq (x := iZ Mtk) (y := iZ 1) rfl rfl ⟨by omega, by omega⟩ ⟨by omega, by omega⟩).mp c_3
      refine lv_iconst (v := iZ 1) hx hb dX12_fails_16 (by decide) ?_
      refine lv_goto (tgt := 21) hx hb dX12_fails_17 (by decide) ?_
      refine va_put (D := D) (ci := 12) (v := .int (iZ 1)) (ty := .int) (C := RX12) (T := TX12) (N := 36) hx hb hts iX12 tyX12 tyX12_ok nmX12 hown hK hP hD hS 0 rfl rfl 18 (by decide) (hts _ qf_X12_152) (fun _ h => h) rfl (by decide +kernel) rfl rfl (Nat.le_of_ble_eq_true rfl) dX12_fails_21 (fun H locs hP hD hS => ?_)
      refine lv_aload_n hx hb dX12_fails_24 rfl (lv_at hl 0 rfl) ?_
      refine lv_aload_n hx hb dX12_fails_25 rfl (lv_at hl 0 rfl) ?_
      refine va_get (D := D) (ci := 12) (v := .int (iZ Mfr)) (C := RX12) (T := TX12) (N := 36) hx hb hts iX12 hown hK hP 0 rfl rfl 13 (by decide) (hts _ qf_X12_121) (fun _ h => h) rfl dX12_fails_26 ?_
      refine va_put (D := D) (ci := 12) (v := .int (iZ Mfr)) (ty := .int) (C := RX12) (T := TX12) (N := 36) hx hb hts iX12 tyX12 tyX12_ok nmX12 hown hK hP hD hS 0 rfl rfl 17 (by decide) (hts _ qf_X12_41) (fun _ h => h) rfl (by decide +kernel) rfl rfl (Nat.le_of_ble_eq_true rfl) dX12_fails_29 (fun H locs hP hD hS => ?_)
      refine lv_iconst (v := iZ 0) hx hb dX12_fails_32 (by decide) ?_
      exact EWz hx hb hr hlocks hS (fun i => [0, 1, Mfr].getD i 0, fun i => [0].getD i 0, fun i => [].getD i (fun _ => 0), fun i => [].getD i (fun _ => 0)) rfl rfl ⟨(show 1 = xFl (tX Xf Msz) cu x ∧ Mfr = xPl (tX Xf Msz) cu from ⟨by unfold xFl; rw [if_pos (by omega)], by omega⟩), (show 1 ≤ (1 : Int) ∧ (1 : Int) ≤ 9 from (by omega))⟩ (hP.sub [0, 1] rfl) (hD.sub [0, 1] rfl rfl) dX12_fails_33
set_option maxHeartbeats 4000000 in
set_option maxRecDepth 100000 in
theorem y_isSign (l : Launch) (D : va_G) (k : Nat → ClassId) (hm : Nat) (Ma : Nat) (Mn : Nat) (Ms : Nat) (My : Nat) (Mt : Nat) (Mp : Nat) (Mx : Nat) (Mo : Nat) (Mk : Nat) (Ml : Nat) (Mb : Nat) (Mh : Nat) (Mc : Nat) (Mz : Nat) (Mr : Nat) (Mq : Nat) (Mst : Int) (Mtd : Int) (Msz : Int) (Mtk : Int) (Mfr : Int) (Men : Int) (Mva : Int) (Mfk : Int) (Mfp : Int) (Mfs : Int) (Mse : Int) (Mlt : Int) (Mdp : Int) (Mct : Int) (Mdr : Int) (Mrs : Int) (Mit : Int) (Mmk : Int) (Mtp : Int64) (Mbt : Int64) (Xf : Nat → Int32) (x : Int) (cu : Int) (h9x : -2147483648 ≤ x ∧ x < 2147483648) (hTI : (0 ≤ (Mfr : Int) ∧ (Mfr : Int) ≤ Men) ∧ ((Men : Int) ≤ Msz ∧ (Msz : Int) ≤ 900) ∧ (0 ≤ (Mtk : Int) ∧ (Mtk : Int) ≤ 4) ∧ ((Mtk : Int) = 0 ∨ (Mfr : Int) < Men) ∧ (-1 ≤ (Mva : Int) ∧ (Mva : Int) ≤ 100000)) (hrf : RFX (tX Xf Msz) cu Mfr Men Mtk Mva) : RP l yX12_isSign cX12_isSign 2 (some .boolean) 0 D k [.ref hm, .int (iZ x)] [(hm, .inr (12, [.ref Ma, .ref Mn, .int (iZ Mst), .long Mtp, .long Mbt, .ref Ms, .ref My, .ref Mt, .ref Mp, .ref Mx, .int (iZ Mtd), .int (iZ Msz), .int (iZ Mtk), .int (iZ Mfr), .int (iZ Men), .int (iZ Mva), .int (iZ Mfk), .int (iZ Mfp), .int (iZ Mfs), .int (iZ Mse), .int (iZ Mlt), .ref Mo, .int (iZ Mdp), .int (iZ Mct), .ref Mk, .ref Ml, .ref Mb, .ref Mh, .ref Mc, .int (iZ Mdr), .int (iZ Mrs), .ref Mz, .ref Mr, .ref Mq, .int (iZ Mit), .int (iZ Mmk)])), (Mx, .inl (k 0, 900, .inl Xf))] (fun z => (z = 1 ∧ (xKd (tX Xf Msz) cu = 3 ∧ xVl (tX Xf Msz) cu = x)) ∨ (z = 0 ∧ ¬ (xKd (tX Xf Msz) cu = 3 ∧ xVl (tX Xf Msz) cu = x))) := by
  refine MRP (by decide) (Nat.le_of_ble_eq_true rfl) (fun p e s m below meth c ls hx hb hml hr hlocks hts hown hKK hP hl => ?_)
  have hK := hKK.1
  have hl : lv_has ls 2 [(0, .ref hm), (1, .int (iZ x))] := hl
  obtain ⟨⟨ar_1, br_1⟩, cr_1, dr_1, er_1, gr_1, hr_1⟩ := id hrf
  have kr_1 := tk_1 dr_1 (xKd_rg _ _)
  have wr_1 := xKw_rg (tX Xf Msz) cu
  refine lv_aload_n hx hb dX12_isSign_0 rfl (lv_at hl 0 rfl) ?_
  refine va_get (D := D) (ci := 12) (v := .int (iZ Mtk)) (C := RX12) (T := TX12) (N := 36) hx hb hts iX12 hown hK hP 0 rfl rfl 12 (by decide) (hts _ qf_X12_127) (fun _ h => h) rfl dX12_isSign_1 ?_
  refine lv_iconst (v := iZ 4) hx hb dX12_isSign_4 (by decide) ?_
  refine lv_icmp_ne (tgt := 20) hx hb dX12_isSign_5 (by decide) (fun c_2 => ?_) (fun c_2 => ?_)
  ·
    have c_2 := mt (zeq (x := iZ Mtk) (y := iZ 4) rfl rfl ⟨by omega, by omega⟩ ⟨by omega, by omega⟩).mpr c_2
    refine lv_iconst (v := iZ 0) hx hb dX12_isSign_20 (by decide) ?_
    exact EPz hx hb hr hlocks (by omega) (by omega) dX12_isSign_21
  ·
    have c_2 := (zeq (x := iZ Mtk) (y := iZ 4) rfl rfl ⟨by omega, by omega⟩ ⟨by omega, by omega⟩).mp c_2
    refine lv_aload_n hx hb dX12_isSign_8 rfl (lv_at hl 0 rfl) ?_
    refine va_get (D := D) (ci := 12) (v := .int (iZ Mva)) (C := RX12) (T := TX12) (N := 36) hx hb hts iX12 hown hK hP 0 rfl rfl 15 (by decide) (hts _ qf_X12_124) (fun _ h => h) rfl dX12_isSign_9 ?_
    refine lv_iload_n hx hb dX12_isSign_12 rfl (lv_at hl 1 rfl) ?_
    refine lv_icmp_ne (tgt := 20) hx hb dX12_isSign_13 (by decide) (fun c_3 => ?_) (fun c_3 => ?_)
    ·
      have c_3 := mt (zeq (x := iZ Mva) (y := iZ x) rfl rfl ⟨by omega, by omega⟩ ⟨by omega, by omega⟩).mpr c_3
      refine lv_iconst (v := iZ 0) hx hb dX12_isSign_20 (by decide) ?_
      exact EPz hx hb hr hlocks (by omega) (by omega) dX12_isSign_21
    ·
      have c_3 := (zeq (x := iZ Mva) (y := iZ x) rfl rfl ⟨by omega, by omega⟩ ⟨by omega, by omega⟩).mp c_3
      refine lv_iconst (v := iZ 1) hx hb dX12_isSign_16 (by decide) ?_
      refine lv_goto (tgt := 21) hx hb dX12_isSign_17 (by decide) ?_
      exact EPz hx hb hr hlocks (by omega) (by omega) dX12_isSign_21
set_option maxHeartbeats 4000000 in
set_option maxRecDepth 100000 in
theorem y_wantSign (l : Launch) (D : va_G) (k : Nat → ClassId) (hm : Nat) (Ma : Nat) (Mn : Nat) (Ms : Nat) (My : Nat) (Mt : Nat) (Mp : Nat) (Mx : Nat) (Mo : Nat) (Mk : Nat) (Ml : Nat) (Mb : Nat) (Mh : Nat) (Mc : Nat) (Mz : Nat) (Mr : Nat) (Mq : Nat) (Mst : Int) (Mtd : Int) (Msz : Int) (Mtk : Int) (Mfr : Int) (Men : Int) (Mva : Int) (Mfk : Int) (Mfp : Int) (Mfs : Int) (Mse : Int) (Mlt : Int) (Mdp : Int) (Mct : Int) (Mdr : Int) (Mrs : Int) (Mit : Int) (Mmk : Int) (Mtp : Int64) (Mbt : Int64) (Xf : Nat → Int32) (x : Int) (cu : Int) (hTI : (0 ≤ (Mfr : Int) ∧ (Mfr : Int) ≤ Men) ∧ ((Men : Int) ≤ Msz ∧ (Msz : Int) ≤ 900) ∧ (0 ≤ (Mtk : Int) ∧ (Mtk : Int) ≤ 4) ∧ ((Mtk : Int) = 0 ∨ (Mfr : Int) < Men) ∧ (-1 ≤ (Mva : Int) ∧ (Mva : Int) ≤ 100000)) (hf0 : Mfs = 0) (hrf : RFX (tX Xf Msz) cu Mfr Men Mtk Mva) (h9x : -2147483648 ≤ x ∧ x < 2147483648) : WD (σ := ((Nat → Int) × (Nat → Int64) × (Nat → Nat → Int32) × (Nat → Nat → Int64))) l yX12_wantSign cX12_wantSign 2 (some .boolean) 2 0 0 D k [.ref hm, .int (iZ x)] [(hm, .inr (12, [.ref Ma, .ref Mn, .int (iZ Mst), .long Mtp, .long Mbt, .ref Ms, .ref My, .ref Mt, .ref Mp, .ref Mx, .int (iZ Mtd), .int (iZ Msz), .int (iZ Mtk), .int (iZ Mfr), .int (iZ Men), .int (iZ Mva), .int (iZ Mfk), .int (iZ Mfp), .int (iZ Mfs), .int (iZ Mse), .int (iZ Mlt), .ref Mo, .int (iZ Mdp), .int (iZ Mct), .ref Mk, .ref Ml, .ref Mb, .ref Mh, .ref Mc, .int (iZ Mdr), .int (iZ Mrs), .ref Mz, .ref Mr, .ref Mq, .int (iZ Mit), .int (iZ Mmk)])), (Mx, .inl (k 0, 900, .inl Xf))] (fun u => some (.int (iZ (u.1 0)))) (fun u => ((0 ≤ ((u.1 2) : Int) ∧ ((u.1 2) : Int) ≤ (u.1 3)) ∧ (((u.1 3) : Int) ≤ Msz ∧ (Msz : Int) ≤ 900) ∧ (0 ≤ ((u.1 1) : Int) ∧ ((u.1 1) : Int) ≤ 4) ∧ (((u.1 1) : Int) = 0 ∨ ((u.1 2) : Int) < (u.1 3)) ∧ (-1 ≤ ((u.1 4) : Int) ∧ ((u.1 4) : Int) ≤ 100000)) ∧ (0 ≤ ((u.1 5) : Int) ∧ ((u.1 5) : Int) ≤ 9) ∧ ((((u.1 0) : Int) = 1 ∧ ∃ q9 : Int, xTs (tX Xf Msz) x cu = .inr q9 ∧ cu < q9 ∧ RFX (tX Xf Msz) q9 (u.1 2) (u.1 3) (u.1 1) (u.1 4) ∧ ((u.1 5) : Int) = 0 ∧ (u.1 6) = Mfp) ∨ (((u.1 0) : Int) = 0 ∧ xTs (tX Xf Msz) x cu = .inl ((u.1 5), (u.1 6)) ∧ 1 ≤ ((u.1 5) : Int)))) (fun u => [(hm, .inr (12, [.ref Ma, .ref Mn, .int (iZ Mst), .long Mtp, .long Mbt, .ref Ms, .ref My, .ref Mt, .ref Mp, .ref Mx, .int (iZ Mtd), .int (iZ Msz), .int (iZ (u.1 1)), .int (iZ (u.1 2)), .int (iZ (u.1 3)), .int (iZ (u.1 4)), .int (iZ Mfk), .int (iZ (u.1 6)), .int (iZ (u.1 5)), .int (iZ Mse), .int (iZ Mlt), .ref Mo, .int (iZ Mdp), .int (iZ Mct), .ref Mk, .ref Ml, .ref Mb, .ref Mh, .ref Mc, .int (iZ Mdr), .int (iZ Mrs), .ref Mz, .ref Mr, .ref Mq, .int (iZ Mit), .int (iZ Mmk)])), (Mx, .inl (k 0, 900, .inl Xf))]) := by
  refine MW (by decide) (Nat.le_of_ble_eq_true rfl) (fun p e s m below meth c ls A hx hb hml hr hlocks hin hts hown hKK hP hD hS hA hl => ?_)
  have hK := hKK.1
  have hl : lv_has ls 2 [(0, .ref hm), (1, .int (iZ x))] := hl
  obtain ⟨⟨ar_1, br_1⟩, cr_1, dr_1, er_1, gr_1, hr_1⟩ := id hrf
  have kr_1 := tk_1 dr_1 (xKd_rg _ _)
  have wr_1 := xKw_rg (tX Xf Msz) cu
  refine lv_aload_n hx hb dX12_wantSign_0 rfl (lv_at hl 0 rfl) ?_
  refine lv_iload_n hx hb dX12_wantSign_1 rfl (lv_at hl 1 rfl) ?_
  refine CPV (As := [.int (iZ x)]) (rest := []) hx hb hml hown hts hKK hP (y_isSign l D k hm Ma Mn Ms My Mt Mp Mx Mo Mk Ml Mb Mh Mc Mz Mr Mq Mst Mtd Msz Mtk Mfr Men Mva Mfk Mfp Mfs Mse Mlt Mdp Mct Mdr Mrs Mit Mmk Mtp Mbt Xf x cu ⟨by omega, by omega⟩ ⟨⟨by omega, by omega⟩, ⟨by omega, by omega⟩, ⟨by omega, by omega⟩, by omega, by omega, by omega⟩ hrf) ci_X12_isSign qm_X12_161 ⟨Nat.le_of_ble_eq_true rfl, Nat.le_of_ble_eq_true rfl⟩ ⟨Nat.le_of_ble_eq_true rfl, Nat.le_of_ble_eq_true rfl⟩ 0 rfl rfl rfl hl.1 rfl (Nat.le_of_ble_eq_true rfl) dX12_wantSign_2 (fun z_2 hz_2 => ?_)
  rcases hz_2 with ⟨qz_2, hz_2⟩ | ⟨qz_2, hz_2⟩
  ·
    subst qz_2
    refine lv_if_ne (tgt := 14) hx hb dX12_wantSign_5 (by decide) (fun _ => ?_) (fun c => absurd c (by decide))
    refine lv_aload_n hx hb dX12_wantSign_14 rfl (lv_at hl 0 rfl) ?_
    refine CWV (As := []) (rest := []) (wc := [(hm, .inr (12, [.ref Ma, .ref Mn, .int (iZ Mst), .long Mtp, .long Mbt, .ref Ms, .ref My, .ref Mt, .ref Mp, .ref Mx, .int (iZ Mtd), .int (iZ Msz), .int (iZ Mtk), .int (iZ Mfr), .int (iZ Men), .int (iZ Mva), .int (iZ Mfk), .int (iZ Mfp), .int (iZ Mfs), .int (iZ Mse), .int (iZ Mlt), .ref Mo, .int (iZ Mdp), .int (iZ Mct), .ref Mk, .ref Ml, .ref Mb, .ref Mh, .ref Mc, .int (iZ Mdr), .int (iZ Mrs), .ref Mz, .ref Mr, .ref Mq, .int (iZ Mit), .int (iZ Mmk)])), (Mx, .inl (k 0, 900, .inl Xf))]) (wr := []) hx hb hml hown hts hKK hP hD hS hA (y_onward l D k hm Ma Mn Ms My Mt Mp Mx Mo Mk Ml Mb Mh Mc Mz Mr Mq Mst Mtd Msz Mtk Mfr Men Mva Mfk Mfp Mfs Mse Mlt Mdp Mct Mdr Mrs Mit Mmk Mtp Mbt Xf ⟨⟨by omega, by omega⟩, by omega⟩) ci_X12_onward qm_X12_158 ⟨Nat.le_of_ble_eq_true rfl, Nat.le_of_ble_eq_true rfl⟩ ⟨Nat.le_of_ble_eq_true rfl, Nat.le_of_ble_eq_true rfl⟩ [0, 1] [] rfl rfl rfl rfl rfl (by decide) 0 rfl rfl rfl hl.1 rfl (Nat.le_of_ble_eq_true rfl) dX12_wantSign_15 (fun u_4 H locs hφ hP hD hS => ?_)
    obtain ⟨I_5, L_6, F_7, G_8⟩ := u_4
    obtain ⟨p_10, p_11, p_12⟩ : (RFX (tX Xf Msz) Men (I_5 2) (I_5 3) (I_5 1) (I_5 4)) ∧ ((0 ≤ ((I_5 2) : Int) ∧ ((I_5 2) : Int) ≤ (I_5 3)) ∧ (((I_5 3) : Int) ≤ Msz ∧ (Msz : Int) ≤ 900) ∧ (0 ≤ ((I_5 1) : Int) ∧ ((I_5 1) : Int) ≤ 4) ∧ (((I_5 1) : Int) = 0 ∨ ((I_5 2) : Int) < (I_5 3)) ∧ (-1 ≤ ((I_5 4) : Int) ∧ ((I_5 4) : Int) ≤ 100000)) ∧ (Men ≤ (I_5 2)) := hφ
    have rx_13 := RFX.nx hrf p_10
    obtain ⟨⟨ar_14, br_14⟩, cr_14, dr_14, er_14, gr_14, hr_14⟩ := id rx_13
    have kr_14 := tk_1 dr_14 (xKd_rg _ _)
    have wr_14 := xKw_rg (tX Xf Msz) (xEn (tX Xf Msz) cu)
    refine W.eq (g2 := F0 m 18 ls []) rfl ?_
    refine lv_iconst (v := iZ 1) hx hb dX12_wantSign_18 (by decide) ?_
    exact EWz hx hb hr hlocks hS (fun i => [1, (I_5 1), (I_5 2), (I_5 3), (I_5 4), Mfs, Mfp].getD i 0, fun i => [0].getD i 0, fun i => [].getD i (fun _ => 0), fun i => [].getD i (fun _ => 0)) rfl rfl ⟨(show (0 ≤ ((I_5 2) : Int) ∧ ((I_5 2) : Int) ≤ (I_5 3)) ∧ (((I_5 3) : Int) ≤ Msz ∧ (Msz : Int) ≤ 900) ∧ (0 ≤ ((I_5 1) : Int) ∧ ((I_5 1) : Int) ≤ 4) ∧ (((I_5 1) : Int) = 0 ∨ ((I_5 2) : Int) < (I_5 3)) ∧ (-1 ≤ ((I_5 4) : Int) ∧ ((I_5 4) : Int) ≤ 100000) from ⟨⟨by omega, by omega⟩, ⟨by omega, by omega⟩, ⟨by omega, by omega⟩, by omega, by omega, by omega⟩), (show 0 ≤ (Mfs : Int) ∧ (Mfs : Int) ≤ 9 from (by omega)), (show ((1 : Int) = 1 ∧ ∃ q9 : Int, xTs (tX Xf Msz) x cu = .inr q9 ∧ cu < q9 ∧ RFX (tX Xf Msz) q9 (I_5 2) (I_5 3) (I_5 1) (I_5 4) ∧ (Mfs : Int) = 0 ∧ Mfp = Mfp) ∨ ((1 : Int) = 0 ∧ xTs (tX Xf Msz) x cu = .inl (Mfs, Mfp) ∧ 1 ≤ (Mfs : Int)) from (Or.inl ⟨rfl, xEn (tX Xf Msz) cu, by unfold xTs; rw [if_pos ⟨by omega, by omega⟩], by omega, rx_13, by omega, rfl⟩))⟩ (hP.sub [0, 1] rfl) (hD.sub [0, 1] rfl rfl) dX12_wantSign_19
  ·
    subst qz_2
    refine lv_if_ne (tgt := 14) hx hb dX12_wantSign_5 (by decide) (fun c => absurd (by decide) c) (fun _ => ?_)
    refine lv_aload_n hx hb dX12_wantSign_8 rfl (lv_at hl 0 rfl) ?_
    refine lv_iconst (v := iZ 2) hx hb dX12_wantSign_9 (by decide) ?_
    refine CWV (As := [.int (iZ 2)]) (rest := []) (wc := [(hm, .inr (12, [.ref Ma, .ref Mn, .int (iZ Mst), .long Mtp, .long Mbt, .ref Ms, .ref My, .ref Mt, .ref Mp, .ref Mx, .int (iZ Mtd), .int (iZ Msz), .int (iZ Mtk), .int (iZ Mfr), .int (iZ Men), .int (iZ Mva), .int (iZ Mfk), .int (iZ Mfp), .int (iZ Mfs), .int (iZ Mse), .int (iZ Mlt), .ref Mo, .int (iZ Mdp), .int (iZ Mct), .ref Mk, .ref Ml, .ref Mb, .ref Mh, .ref Mc, .int (iZ Mdr), .int (iZ Mrs), .ref Mz, .ref Mr, .ref Mq, .int (iZ Mit), .int (iZ Mmk)])), (Mx, .inl (k 0, 900, .inl Xf))]) (wr := []) hx hb hml hown hts hKK hP hD hS hA (y_fails l D k hm Ma Mn Ms My Mt Mp Mx Mo Mk Ml Mb Mh Mc Mz Mr Mq Mst Mtd Msz Mtk Mfr Men Mva Mfk Mfp Mfs Mse Mlt Mdp Mct Mdr Mrs Mit Mmk Mtp Mbt Xf 2 cu ⟨by omega, by omega⟩ (by omega) hrf) ci_X12_fails qm_X12_164 ⟨Nat.le_of_ble_eq_true rfl, Nat.le_of_ble_eq_true rfl⟩ ⟨Nat.le_of_ble_eq_true rfl, Nat.le_of_ble_eq_true rfl⟩ [0, 1] [] rfl rfl rfl rfl rfl (by decide) 0 rfl rfl rfl hl.1 rfl (Nat.le_of_ble_eq_true rfl) dX12_wantSign_10 (fun u_16 H locs hφ hP hD hS => ?_)
    obtain ⟨I_17, L_18, F_19, G_20⟩ := u_16
    obtain ⟨p_22, p_23⟩ : ((I_17 1) = xFl (tX Xf Msz) cu 2 ∧ (I_17 2) = xPl (tX Xf Msz) cu) ∧ (1 ≤ ((I_17 1) : Int) ∧ ((I_17 1) : Int) ≤ 9) := hφ
    refine W.eq (g2 := F0 m 13 ls [.int (iZ 0)]) rfl ?_
    exact EWz hx hb hr hlocks hS (fun i => [0, Mtk, Mfr, Men, Mva, (I_17 1), (I_17 2)].getD i 0, fun i => [0].getD i 0, fun i => [].getD i (fun _ => 0), fun i => [].getD i (fun _ => 0)) rfl rfl ⟨(show (0 ≤ (Mfr : Int) ∧ (Mfr : Int) ≤ Men) ∧ ((Men : Int) ≤ Msz ∧ (Msz : Int) ≤ 900) ∧ (0 ≤ (Mtk : Int) ∧ (Mtk : Int) ≤ 4) ∧ ((Mtk : Int) = 0 ∨ (Mfr : Int) < Men) ∧ (-1 ≤ (Mva : Int) ∧ (Mva : Int) ≤ 100000) from ⟨⟨by omega, by omega⟩, ⟨by omega, by omega⟩, ⟨by omega, by omega⟩, by omega, by omega, by omega⟩), (show 0 ≤ ((I_17 1) : Int) ∧ ((I_17 1) : Int) ≤ 9 from (by omega)), (show ((0 : Int) = 1 ∧ ∃ q9 : Int, xTs (tX Xf Msz) x cu = .inr q9 ∧ cu < q9 ∧ RFX (tX Xf Msz) q9 Mfr Men Mtk Mva ∧ ((I_17 1) : Int) = 0 ∧ (I_17 2) = Mfp) ∨ ((0 : Int) = 0 ∧ xTs (tX Xf Msz) x cu = .inl ((I_17 1), (I_17 2)) ∧ 1 ≤ ((I_17 1) : Int)) from (Or.inr ⟨rfl, by unfold xTs xEr; rw [if_neg (by omega), p_22.1, p_22.2], by omega⟩))⟩ (hP.sub [0, 1] rfl) (hD.sub [0, 1] rfl rfl) dX12_wantSign_13
set_option maxHeartbeats 4000000 in
set_option maxRecDepth 100000 in
theorem y_number (l : Launch) (D : va_G) (k : Nat → ClassId) (hm : Nat) (Ma : Nat) (Mn : Nat) (Ms : Nat) (My : Nat) (Mt : Nat) (Mp : Nat) (Mx : Nat) (Mo : Nat) (Mk : Nat) (Ml : Nat) (Mb : Nat) (Mh : Nat) (Mc : Nat) (Mz : Nat) (Mr : Nat) (Mq : Nat) (Mst : Int) (Mtd : Int) (Msz : Int) (Mtk : Int) (Mfr : Int) (Men : Int) (Mva : Int) (Mfk : Int) (Mfp : Int) (Mfs : Int) (Mse : Int) (Mlt : Int) (Mdp : Int) (Mct : Int) (Mdr : Int) (Mrs : Int) (Mit : Int) (Mmk : Int) (Mtp : Int64) (Mbt : Int64) (Xf : Nat → Int32) (Af : Nat → Int32) (x : Int) (y : Int) (w : Int) (cu : Int) (hTI : (0 ≤ (Mfr : Int) ∧ (Mfr : Int) ≤ Men) ∧ ((Men : Int) ≤ Msz ∧ (Msz : Int) ≤ 900) ∧ (0 ≤ (Mtk : Int) ∧ (Mtk : Int) ≤ 4) ∧ ((Mtk : Int) = 0 ∨ (Mfr : Int) < Men) ∧ (-1 ≤ (Mva : Int) ∧ (Mva : Int) ≤ 100000)) (hf0 : Mfs = 0) (hrf : RFX (tX Xf Msz) cu Mfr Men Mtk Mva) (h9x : 0 ≤ x ∧ x < 5340) (h9y : 0 ≤ y ∧ y ≤ 100000) (h9w : -2147483648 ≤ w ∧ w < 2147483648) : WD (σ := ((Nat → Int) × (Nat → Int64) × (Nat → Nat → Int32) × (Nat → Nat → Int64))) l yX12_number cX12_number 4 (some .boolean) 2 0 0 D k [.ref hm, .int (iZ x), .int (iZ y), .int (iZ w)] [(hm, .inr (12, [.ref Ma, .ref Mn, .int (iZ Mst), .long Mtp, .long Mbt, .ref Ms, .ref My, .ref Mt, .ref Mp, .ref Mx, .int (iZ Mtd), .int (iZ Msz), .int (iZ Mtk), .int (iZ Mfr), .int (iZ Men), .int (iZ Mva), .int (iZ Mfk), .int (iZ Mfp), .int (iZ Mfs), .int (iZ Mse), .int (iZ Mlt), .ref Mo, .int (iZ Mdp), .int (iZ Mct), .ref Mk, .ref Ml, .ref Mb, .ref Mh, .ref Mc, .int (iZ Mdr), .int (iZ Mrs), .ref Mz, .ref Mr, .ref Mq, .int (iZ Mit), .int (iZ Mmk)])), (Mx, .inl (k 0, 900, .inl Xf)), (Ma, .inl (k 1, 5340, .inl Af))] (fun u => some (.int (iZ (u.1 0)))) (fun u => ((0 ≤ ((u.1 2) : Int) ∧ ((u.1 2) : Int) ≤ (u.1 3)) ∧ (((u.1 3) : Int) ≤ Msz ∧ (Msz : Int) ≤ 900) ∧ (0 ≤ ((u.1 1) : Int) ∧ ((u.1 1) : Int) ≤ 4) ∧ (((u.1 1) : Int) = 0 ∨ ((u.1 2) : Int) < (u.1 3)) ∧ (-1 ≤ ((u.1 4) : Int) ∧ ((u.1 4) : Int) ≤ 100000)) ∧ (0 ≤ ((u.1 5) : Int) ∧ ((u.1 5) : Int) ≤ 9) ∧ ((((u.1 0) : Int) = 1 ∧ ∃ (q9 v9 : Int), xTn (tX Xf Msz) y w cu = .inr (q9, v9) ∧ cu < q9 ∧ RFX (tX Xf Msz) q9 (u.1 2) (u.1 3) (u.1 1) (u.1 4) ∧ (y ≤ v9 ∧ v9 ≤ w) ∧ (u.2.2.1 0) = upd Af (iZ x).toNatClampNeg (iZ v9) ∧ ((u.1 5) : Int) = 0 ∧ (u.1 6) = Mfp) ∨ (((u.1 0) : Int) = 0 ∧ xTn (tX Xf Msz) y w cu = .inl ((u.1 5), (u.1 6)) ∧ 1 ≤ ((u.1 5) : Int))) ∧ (((u.1 0) : Int) = 0 → (u.2.2.1 0) = Af)) (fun u => [(hm, .inr (12, [.ref Ma, .ref Mn, .int (iZ Mst), .long Mtp, .long Mbt, .ref Ms, .ref My, .ref Mt, .ref Mp, .ref Mx, .int (iZ Mtd), .int (iZ Msz), .int (iZ (u.1 1)), .int (iZ (u.1 2)), .int (iZ (u.1 3)), .int (iZ (u.1 4)), .int (iZ Mfk), .int (iZ (u.1 6)), .int (iZ (u.1 5)), .int (iZ Mse), .int (iZ Mlt), .ref Mo, .int (iZ Mdp), .int (iZ Mct), .ref Mk, .ref Ml, .ref Mb, .ref Mh, .ref Mc, .int (iZ Mdr), .int (iZ Mrs), .ref Mz, .ref Mr, .ref Mq, .int (iZ Mit), .int (iZ Mmk)])), (Mx, .inl (k 0, 900, .inl Xf)), (Ma, .inl (k 1, 5340, .inl (u.2.2.1 0)))]) := by
  refine MW (by decide) (Nat.le_of_ble_eq_true rfl) (fun p e s m below meth c ls A hx hb hml hr hlocks hin hts hown hKK hP hD hS hA hl => ?_)
  have hK := hKK.1
  have hl : lv_has ls 4 [(0, .ref hm), (1, .int (iZ x)), (2, .int (iZ y)), (3, .int (iZ w))] := hl
  obtain ⟨⟨ar_1, br_1⟩, cr_1, dr_1, er_1, gr_1, hr_1⟩ := id hrf
  have kr_1 := tk_1 dr_1 (xKd_rg _ _)
  have wr_1 := xKw_rg (tX Xf Msz) cu
  refine lv_aload_n hx hb dX12_number_0 rfl (lv_at hl 0 rfl) ?_
  refine va_get (D := D) (ci := 12) (v := .int (iZ Mtk)) (C := RX12) (T := TX12) (N := 36) hx hb hts iX12 hown hK hP 0 rfl rfl 12 (by decide) (hts _ qf_X12_127) (fun _ h => h) rfl dX12_number_1 ?_
  refine lv_iconst (v := iZ 3) hx hb dX12_number_4 (by decide) ?_
  refine lv_icmp_eq (tgt := 14) hx hb dX12_number_5 (by decide) (fun c_2 => ?_) (fun c_2 => ?_)
  ·
    have c_2 := (zeq (x := iZ Mtk) (y := iZ 3) rfl rfl ⟨by omega, by omega⟩ ⟨by omega, by omega⟩).mp c_2
    refine lv_aload_n hx hb dX12_number_14 rfl (lv_at hl 0 rfl) ?_
    refine va_get (D := D) (ci := 12) (v := .int (iZ Mva)) (C := RX12) (T := TX12) (N := 36) hx hb hts iX12 hown hK hP 0 rfl rfl 15 (by decide) (hts _ qf_X12_124) (fun _ h => h) rfl dX12_number_15 ?_
    refine lv_iload_n hx hb dX12_number_18 rfl (lv_at hl 2 rfl) ?_
    refine lv_icmp_lt (tgt := 30) hx hb dX12_number_19 (by decide) (fun c_3 => ?_) (fun c_3 => ?_)
    ·
      have c_3 := (zlt (x := iZ Mva) (y := iZ y) rfl rfl ⟨by omega, by omega⟩ ⟨by omega, by omega⟩).mp c_3
      refine lv_aload_n hx hb dX12_number_30 rfl (lv_at hl 0 rfl) ?_
      refine lv_iconst (v := iZ 4) hx hb dX12_number_31 (by decide) ?_
      refine CWV (As := [.int (iZ 4)]) (rest := []) (wc := [(hm, .inr (12, [.ref Ma, .ref Mn, .int (iZ Mst), .long Mtp, .long Mbt, .ref Ms, .ref My, .ref Mt, .ref Mp, .ref Mx, .int (iZ Mtd), .int (iZ Msz), .int (iZ Mtk), .int (iZ Mfr), .int (iZ Men), .int (iZ Mva), .int (iZ Mfk), .int (iZ Mfp), .int (iZ Mfs), .int (iZ Mse), .int (iZ Mlt), .ref Mo, .int (iZ Mdp), .int (iZ Mct), .ref Mk, .ref Ml, .ref Mb, .ref Mh, .ref Mc, .int (iZ Mdr), .int (iZ Mrs), .ref Mz, .ref Mr, .ref Mq, .int (iZ Mit), .int (iZ Mmk)])), (Mx, .inl (k 0, 900, .inl Xf))]) (wr := [(Ma, .inl (k 1, 5340, .inl Af))]) hx hb hml hown hts hKK hP hD hS hA (y_fails l D k hm Ma Mn Ms My Mt Mp Mx Mo Mk Ml Mb Mh Mc Mz Mr Mq Mst Mtd Msz Mtk Mfr Men Mva Mfk Mfp Mfs Mse Mlt Mdp Mct Mdr Mrs Mit Mmk Mtp Mbt Xf 4 cu ⟨by omega, by omega⟩ (by omega) hrf) ci_X12_fails qm_X12_164 ⟨Nat.le_of_ble_eq_true rfl, Nat.le_of_ble_eq_true rfl⟩ ⟨Nat.le_of_ble_eq_true rfl, Nat.le_of_ble_eq_true rfl⟩ [0, 1] [2] rfl rfl rfl rfl rfl (by decide) 0 rfl rfl rfl hl.1 rfl (Nat.le_of_ble_eq_true rfl) dX12_number_32 (fun u_4 H locs hφ hP hD hS => ?_)
      obtain ⟨I_5, L_6, F_7, G_8⟩ := u_4
      obtain ⟨p_10, p_11⟩ : ((I_5 1) = xFl (tX Xf Msz) cu 4 ∧ (I_5 2) = xPl (tX Xf Msz) cu) ∧ (1 ≤ ((I_5 1) : Int) ∧ ((I_5 1) : Int) ≤ 9) := hφ
      refine W.eq (g2 := F0 m 35 ls [.int (iZ 0)]) rfl ?_
      exact EWz hx hb hr hlocks hS (fun i => [0, Mtk, Mfr, Men, Mva, (I_5 1), (I_5 2)].getD i 0, fun i => [0].getD i 0, fun i => [Af].getD i (fun _ => 0), fun i => [].getD i (fun _ => 0)) rfl rfl ⟨(show (0 ≤ (Mfr : Int) ∧ (Mfr : Int) ≤ Men) ∧ ((Men : Int) ≤ Msz ∧ (Msz : Int) ≤ 900) ∧ (0 ≤ (Mtk : Int) ∧ (Mtk : Int) ≤ 4) ∧ ((Mtk : Int) = 0 ∨ (Mfr : Int) < Men) ∧ (-1 ≤ (Mva : Int) ∧ (Mva : Int) ≤ 100000) from ⟨⟨by omega, by omega⟩, ⟨by omega, by omega⟩, ⟨by omega, by omega⟩, by omega, by omega, by omega⟩), (show 0 ≤ ((I_5 1) : Int) ∧ ((I_5 1) : Int) ≤ 9 from (by omega)), (show ((0 : Int) = 1 ∧ ∃ (q9 v9 : Int), xTn (tX Xf Msz) y w cu = .inr (q9, v9) ∧ cu < q9 ∧ RFX (tX Xf Msz) q9 Mfr Men Mtk Mva ∧ (y ≤ v9 ∧ v9 ≤ w) ∧ Af = upd Af (iZ x).toNatClampNeg (iZ v9) ∧ ((I_5 1) : Int) = 0 ∧ (I_5 2) = Mfp) ∨ ((0 : Int) = 0 ∧ xTn (tX Xf Msz) y w cu = .inl ((I_5 1), (I_5 2)) ∧ 1 ≤ ((I_5 1) : Int)) from (Or.inr ⟨rfl, by unfold xTn xEr; rw [if_neg (by omega)]; first | (rw [if_pos (show xKd (tX Xf Msz) cu = 2 from (by omega)), p_10.1, p_10.2]) | (rw [if_neg (show ¬ xKd (tX Xf Msz) cu = 2 from (by omega)), p_10.1, p_10.2]), by omega⟩)), (show (0 : Int) = 0 → Af = Af from (fun _ => rfl))⟩ (hP.sub [1, 2, 0] rfl) (hD.sub [1, 2, 0] rfl rfl) dX12_number_35
    ·
      have c_3 := mt (zlt (x := iZ Mva) (y := iZ y) rfl rfl ⟨by omega, by omega⟩ ⟨by omega, by omega⟩).mpr c_3
      refine lv_aload_n hx hb dX12_number_22 rfl (lv_at hl 0 rfl) ?_
      refine va_get (D := D) (ci := 12) (v := .int (iZ Mva)) (C := RX12) (T := TX12) (N := 36) hx hb hts iX12 hown hK hP 0 rfl rfl 15 (by decide) (hts _ qf_X12_124) (fun _ h => h) rfl dX12_number_23 ?_
      refine lv_iload_n hx hb dX12_number_26 rfl (lv_at hl 3 rfl) ?_
      refine lv_icmp_le (tgt := 36) hx hb dX12_number_27 (by decide) (fun c_12 => ?_) (fun c_12 => ?_)
      ·
        have c_12 := (zle (x := iZ Mva) (y := iZ w) rfl rfl ⟨by omega, by omega⟩ ⟨by omega, by omega⟩).mp c_12
        refine lv_aload_n hx hb dX12_number_36 rfl (lv_at hl 0 rfl) ?_
        refine va_get (D := D) (ci := 12) (v := .ref Ma) (C := RX12) (T := TX12) (N := 36) hx hb hts iX12 hown hK hP 0 rfl rfl 0 (by decide) (hts _ qf_X12_7) (fun _ h => h) rfl dX12_number_37 ?_
        refine lv_iload_n hx hb dX12_number_40 rfl (lv_at hl 1 rfl) ?_
        refine lv_aload_n hx hb dX12_number_41 rfl (lv_at hl 0 rfl) ?_
        refine va_get (D := D) (ci := 12) (v := .int (iZ Mva)) (C := RX12) (T := TX12) (N := 36) hx hb hts iX12 hown hK hP 0 rfl rfl 15 (by decide) (hts _ qf_X12_124) (fun _ h => h) rfl dX12_number_42 ?_
        refine va_iast hx hb hK hP hD hS 2 1 rfl rfl (zin (e := x) (n := 5340) ⟨by omega, by omega⟩ (by decide)) dX12_number_45 (fun H locs hP hD hS => ?_)
        obtain ⟨f_13, hf_13⟩ : ∃ gg9, gg9 = upd Af (iZ x).toNatClampNeg (iZ Mva) := ⟨_, rfl⟩
        rw [← hf_13] at hP hD
        refine lv_aload_n hx hb dX12_number_46 rfl (lv_at hl 0 rfl) ?_
        refine CWV (As := []) (rest := []) (wc := [(hm, .inr (12, [.ref Ma, .ref Mn, .int (iZ Mst), .long Mtp, .long Mbt, .ref Ms, .ref My, .ref Mt, .ref Mp, .ref Mx, .int (iZ Mtd), .int (iZ Msz), .int (iZ Mtk), .int (iZ Mfr), .int (iZ Men), .int (iZ Mva), .int (iZ Mfk), .int (iZ Mfp), .int (iZ Mfs), .int (iZ Mse), .int (iZ Mlt), .ref Mo, .int (iZ Mdp), .int (iZ Mct), .ref Mk, .ref Ml, .ref Mb, .ref Mh, .ref Mc, .int (iZ Mdr), .int (iZ Mrs), .ref Mz, .ref Mr, .ref Mq, .int (iZ Mit), .int (iZ Mmk)])), (Mx, .inl (k 0, 900, .inl Xf))]) (wr := [(Ma, .inl (k 1, 5340, .inl f_13))]) hx hb hml hown hts hKK hP hD hS hA (y_onward l D k hm Ma Mn Ms My Mt Mp Mx Mo Mk Ml Mb Mh Mc Mz Mr Mq Mst Mtd Msz Mtk Mfr Men Mva Mfk Mfp Mfs Mse Mlt Mdp Mct Mdr Mrs Mit Mmk Mtp Mbt Xf ⟨⟨by omega, by omega⟩, by omega⟩) ci_X12_onward qm_X12_158 ⟨Nat.le_of_ble_eq_true rfl, Nat.le_of_ble_eq_true rfl⟩ ⟨Nat.le_of_ble_eq_true rfl, Nat.le_of_ble_eq_true rfl⟩ [0, 1] [2] rfl rfl rfl rfl rfl (by decide) 0 rfl rfl rfl hl.1 rfl (Nat.le_of_ble_eq_true rfl) dX12_number_47 (fun u_14 H locs hφ hP hD hS => ?_)
        obtain ⟨I_15, L_16, F_17, G_18⟩ := u_14
        obtain ⟨p_20, p_21, p_22⟩ : (RFX (tX Xf Msz) Men (I_15 2) (I_15 3) (I_15 1) (I_15 4)) ∧ ((0 ≤ ((I_15 2) : Int) ∧ ((I_15 2) : Int) ≤ (I_15 3)) ∧ (((I_15 3) : Int) ≤ Msz ∧ (Msz : Int) ≤ 900) ∧ (0 ≤ ((I_15 1) : Int) ∧ ((I_15 1) : Int) ≤ 4) ∧ (((I_15 1) : Int) = 0 ∨ ((I_15 2) : Int) < (I_15 3)) ∧ (-1 ≤ ((I_15 4) : Int) ∧ ((I_15 4) : Int) ≤ 100000)) ∧ (Men ≤ (I_15 2)) := hφ
        have rx_23 := RFX.nx hrf p_20
        obtain ⟨⟨ar_24, br_24⟩, cr_24, dr_24, er_24, gr_24, hr_24⟩ := id rx_23
        have kr_24 := tk_1 dr_24 (xKd_rg _ _)
        have wr_24 := xKw_rg (tX Xf Msz) (xEn (tX Xf Msz) cu)
        refine W.eq (g2 := F0 m 50 ls []) rfl ?_
        refine lv_iconst (v := iZ 1) hx hb dX12_number_50 (by decide) ?_
        exact EWz hx hb hr hlocks hS (fun i => [1, (I_15 1), (I_15 2), (I_15 3), (I_15 4), Mfs, Mfp].getD i 0, fun i => [0].getD i 0, fun i => [f_13].getD i (fun _ => 0), fun i => [].getD i (fun _ => 0)) rfl rfl ⟨(show (0 ≤ ((I_15 2) : Int) ∧ ((I_15 2) : Int) ≤ (I_15 3)) ∧ (((I_15 3) : Int) ≤ Msz ∧ (Msz : Int) ≤ 900) ∧ (0 ≤ ((I_15 1) : Int) ∧ ((I_15 1) : Int) ≤ 4) ∧ (((I_15 1) : Int) = 0 ∨ ((I_15 2) : Int) < (I_15 3)) ∧ (-1 ≤ ((I_15 4) : Int) ∧ ((I_15 4) : Int) ≤ 100000) from ⟨⟨by omega, by omega⟩, ⟨by omega, by omega⟩, ⟨by omega, by omega⟩, by omega, by omega, by omega⟩), (show 0 ≤ (Mfs : Int) ∧ (Mfs : Int) ≤ 9 from (by omega)), (show ((1 : Int) = 1 ∧ ∃ (q9 v9 : Int), xTn (tX Xf Msz) y w cu = .inr (q9, v9) ∧ cu < q9 ∧ RFX (tX Xf Msz) q9 (I_15 2) (I_15 3) (I_15 1) (I_15 4) ∧ (y ≤ v9 ∧ v9 ≤ w) ∧ f_13 = upd Af (iZ x).toNatClampNeg (iZ v9) ∧ (Mfs : Int) = 0 ∧ Mfp = Mfp) ∨ ((1 : Int) = 0 ∧ xTn (tX Xf Msz) y w cu = .inl (Mfs, Mfp) ∧ 1 ≤ (Mfs : Int)) from (Or.inl ⟨rfl, xEn (tX Xf Msz) cu, Mva, by unfold xTn; rw [if_pos ⟨by omega, by omega, by omega⟩, show xVl (tX Xf Msz) cu = Mva from (by omega)], by omega, rx_23, ⟨by omega, by omega⟩, hf_13, by omega, rfl⟩)), (show (1 : Int) = 0 → f_13 = Af from (fun h => absurd (show (1 : Int) = 0 from h) (by decide)))⟩ (hP.sub [1, 2, 0] rfl) (hD.sub [1, 2, 0] rfl rfl) dX12_number_51
      ·
        have c_12 := mt (zle (x := iZ Mva) (y := iZ w) rfl rfl ⟨by omega, by omega⟩ ⟨by omega, by omega⟩).mpr c_12
        refine lv_aload_n hx hb dX12_number_30 rfl (lv_at hl 0 rfl) ?_
        refine lv_iconst (v := iZ 4) hx hb dX12_number_31 (by decide) ?_
        refine CWV (As := [.int (iZ 4)]) (rest := []) (wc := [(hm, .inr (12, [.ref Ma, .ref Mn, .int (iZ Mst), .long Mtp, .long Mbt, .ref Ms, .ref My, .ref Mt, .ref Mp, .ref Mx, .int (iZ Mtd), .int (iZ Msz), .int (iZ Mtk), .int (iZ Mfr), .int (iZ Men), .int (iZ Mva), .int (iZ Mfk), .int (iZ Mfp), .int (iZ Mfs), .int (iZ Mse), .int (iZ Mlt), .ref Mo, .int (iZ Mdp), .int (iZ Mct), .ref Mk, .ref Ml, .ref Mb, .ref Mh, .ref Mc, .int (iZ Mdr), .int (iZ Mrs), .ref Mz, .ref Mr, .ref Mq, .int (iZ Mit), .int (iZ Mmk)])), (Mx, .inl (k 0, 900, .inl Xf))]) (wr := [(Ma, .inl (k 1, 5340, .inl Af))]) hx hb hml hown hts hKK hP hD hS hA (y_fails l D k hm Ma Mn Ms My Mt Mp Mx Mo Mk Ml Mb Mh Mc Mz Mr Mq Mst Mtd Msz Mtk Mfr Men Mva Mfk Mfp Mfs Mse Mlt Mdp Mct Mdr Mrs Mit Mmk Mtp Mbt Xf 4 cu ⟨by omega, by omega⟩ (by omega) hrf) ci_X12_fails qm_X12_164 ⟨Nat.le_of_ble_eq_true rfl, Nat.le_of_ble_eq_true rfl⟩ ⟨Nat.le_of_ble_eq_true rfl, Nat.le_of_ble_eq_true rfl⟩ [0, 1] [2] rfl rfl rfl rfl rfl (by decide) 0 rfl rfl rfl hl.1 rfl (Nat.le_of_ble_eq_true rfl) dX12_number_32 (fun u_25 H locs hφ hP hD hS => ?_)
        obtain ⟨I_26, L_27, F_28, G_29⟩ := u_25
        obtain ⟨p_31, p_32⟩ : ((I_26 1) = xFl (tX Xf Msz) cu 4 ∧ (I_26 2) = xPl (tX Xf Msz) cu) ∧ (1 ≤ ((I_26 1) : Int) ∧ ((I_26 1) : Int) ≤ 9) := hφ
        refine W.eq (g2 := F0 m 35 ls [.int (iZ 0)]) rfl ?_
        exact EWz hx hb hr hlocks hS (fun i => [0, Mtk, Mfr, Men, Mva, (I_26 1), (I_26 2)].getD i 0, fun i => [0].getD i 0, fun i => [Af].getD i (fun _ => 0), fun i => [].getD i (fun _ => 0)) rfl rfl ⟨(show (0 ≤ (Mfr : Int) ∧ (Mfr : Int) ≤ Men) ∧ ((Men : Int) ≤ Msz ∧ (Msz : Int) ≤ 900) ∧ (0 ≤ (Mtk : Int) ∧ (Mtk : Int) ≤ 4) ∧ ((Mtk : Int) = 0 ∨ (Mfr : Int) < Men) ∧ (-1 ≤ (Mva : Int) ∧ (Mva : Int) ≤ 100000) from ⟨⟨by omega, by omega⟩, ⟨by omega, by omega⟩, ⟨by omega, by omega⟩, by omega, by omega, by omega⟩), (show 0 ≤ ((I_26 1) : Int) ∧ ((I_26 1) : Int) ≤ 9 from (by omega)), (show ((0 : Int) = 1 ∧ ∃ (q9 v9 : Int), xTn (tX Xf Msz) y w cu = .inr (q9, v9) ∧ cu < q9 ∧ RFX (tX Xf Msz) q9 Mfr Men Mtk Mva ∧ (y ≤ v9 ∧ v9 ≤ w) ∧ Af = upd Af (iZ x).toNatClampNeg (iZ v9) ∧ ((I_26 1) : Int) = 0 ∧ (I_26 2) = Mfp) ∨ ((0 : Int) = 0 ∧ xTn (tX Xf Msz) y w cu = .inl ((I_26 1), (I_26 2)) ∧ 1 ≤ ((I_26 1) : Int)) from (Or.inr ⟨rfl, by unfold xTn xEr; rw [if_neg (by omega)]; first | (rw [if_pos (show xKd (tX Xf Msz) cu = 2 from (by omega)), p_31.1, p_31.2]) | (rw [if_neg (show ¬ xKd (tX Xf Msz) cu = 2 from (by omega)), p_31.1, p_31.2]), by omega⟩)), (show (0 : Int) = 0 → Af = Af from (fun _ => rfl))⟩ (hP.sub [1, 2, 0] rfl) (hD.sub [1, 2, 0] rfl rfl) dX12_number_35
  ·
    have c_2 := mt (zeq (x := iZ Mtk) (y := iZ 3) rfl rfl ⟨by omega, by omega⟩ ⟨by omega, by omega⟩).mpr c_2
    refine lv_aload_n hx hb dX12_number_8 rfl (lv_at hl 0 rfl) ?_
    refine lv_iconst (v := iZ 2) hx hb dX12_number_9 (by decide) ?_
    refine CWV (As := [.int (iZ 2)]) (rest := []) (wc := [(hm, .inr (12, [.ref Ma, .ref Mn, .int (iZ Mst), .long Mtp, .long Mbt, .ref Ms, .ref My, .ref Mt, .ref Mp, .ref Mx, .int (iZ Mtd), .int (iZ Msz), .int (iZ Mtk), .int (iZ Mfr), .int (iZ Men), .int (iZ Mva), .int (iZ Mfk), .int (iZ Mfp), .int (iZ Mfs), .int (iZ Mse), .int (iZ Mlt), .ref Mo, .int (iZ Mdp), .int (iZ Mct), .ref Mk, .ref Ml, .ref Mb, .ref Mh, .ref Mc, .int (iZ Mdr), .int (iZ Mrs), .ref Mz, .ref Mr, .ref Mq, .int (iZ Mit), .int (iZ Mmk)])), (Mx, .inl (k 0, 900, .inl Xf))]) (wr := [(Ma, .inl (k 1, 5340, .inl Af))]) hx hb hml hown hts hKK hP hD hS hA (y_fails l D k hm Ma Mn Ms My Mt Mp Mx Mo Mk Ml Mb Mh Mc Mz Mr Mq Mst Mtd Msz Mtk Mfr Men Mva Mfk Mfp Mfs Mse Mlt Mdp Mct Mdr Mrs Mit Mmk Mtp Mbt Xf 2 cu ⟨by omega, by omega⟩ (by omega) hrf) ci_X12_fails qm_X12_164 ⟨Nat.le_of_ble_eq_true rfl, Nat.le_of_ble_eq_true rfl⟩ ⟨Nat.le_of_ble_eq_true rfl, Nat.le_of_ble_eq_true rfl⟩ [0, 1] [2] rfl rfl rfl rfl rfl (by decide) 0 rfl rfl rfl hl.1 rfl (Nat.le_of_ble_eq_true rfl) dX12_number_10 (fun u_33 H locs hφ hP hD hS => ?_)
    obtain ⟨I_34, L_35, F_36, G_37⟩ := u_33
    obtain ⟨p_39, p_40⟩ : ((I_34 1) = xFl (tX Xf Msz) cu 2 ∧ (I_34 2) = xPl (tX Xf Msz) cu) ∧ (1 ≤ ((I_34 1) : Int) ∧ ((I_34 1) : Int) ≤ 9) := hφ
    refine W.eq (g2 := F0 m 13 ls [.int (iZ 0)]) rfl ?_
    exact EWz hx hb hr hlocks hS (fun i => [0, Mtk, Mfr, Men, Mva, (I_34 1), (I_34 2)].getD i 0, fun i => [0].getD i 0, fun i => [Af].getD i (fun _ => 0), fun i => [].getD i (fun _ => 0)) rfl rfl ⟨(show (0 ≤ (Mfr : Int) ∧ (Mfr : Int) ≤ Men) ∧ ((Men : Int) ≤ Msz ∧ (Msz : Int) ≤ 900) ∧ (0 ≤ (Mtk : Int) ∧ (Mtk : Int) ≤ 4) ∧ ((Mtk : Int) = 0 ∨ (Mfr : Int) < Men) ∧ (-1 ≤ (Mva : Int) ∧ (Mva : Int) ≤ 100000) from ⟨⟨by omega, by omega⟩, ⟨by omega, by omega⟩, ⟨by omega, by omega⟩, by omega, by omega, by omega⟩), (show 0 ≤ ((I_34 1) : Int) ∧ ((I_34 1) : Int) ≤ 9 from (by omega)), (show ((0 : Int) = 1 ∧ ∃ (q9 v9 : Int), xTn (tX Xf Msz) y w cu = .inr (q9, v9) ∧ cu < q9 ∧ RFX (tX Xf Msz) q9 Mfr Men Mtk Mva ∧ (y ≤ v9 ∧ v9 ≤ w) ∧ Af = upd Af (iZ x).toNatClampNeg (iZ v9) ∧ ((I_34 1) : Int) = 0 ∧ (I_34 2) = Mfp) ∨ ((0 : Int) = 0 ∧ xTn (tX Xf Msz) y w cu = .inl ((I_34 1), (I_34 2)) ∧ 1 ≤ ((I_34 1) : Int)) from (Or.inr ⟨rfl, by unfold xTn xEr; rw [if_neg (by omega)]; first | (rw [if_pos (show xKd (tX Xf Msz) cu = 2 from (by omega)), p_39.1, p_39.2]) | (rw [if_neg (show ¬ xKd (tX Xf Msz) cu = 2 from (by omega)), p_39.1, p_39.2]), by omega⟩)), (show (0 : Int) = 0 → Af = Af from (fun _ => rfl))⟩ (hP.sub [1, 2, 0] rfl) (hD.sub [1, 2, 0] rfl rfl) dX12_number_13
