set_option maxHeartbeats 4000000 in
set_option maxRecDepth 100000 in
theorem m_laysOrder (l : Launch) (D : va_G) (k : Nat → ClassId) (hm : Nat) (Ma : Nat) (Mn : Nat) (Ms : Nat) (My : Nat) (Mt : Nat) (Mp : Nat) (Mx : Nat) (Mo : Nat) (Mk : Nat) (Ml : Nat) (Mb : Nat) (Mh : Nat) (Mc : Nat) (Mz : Nat) (Mr : Nat) (Mq : Nat) (Mst : Int) (Mtd : Int) (Msz : Int) (Mtk : Int) (Mfr : Int) (Men : Int) (Mva : Int) (Mfk : Int) (Mfp : Int) (Mfs : Int) (Mse : Int) (Mlt : Int) (Mdp : Int) (Mct : Int) (Mdr : Int) (Mrs : Int) (Mit : Int) (Mmk : Int) (Mtp : Int64) (Mbt : Int64) (Af : Nat → Int32) (Kf : Nat → Int32) (Lf : Nat → Int32) (Bf : Nat → Int32) (Hf : Nat → Int32) (x : Int) (hM : M0 Af) (h9x : 0 ≤ x ∧ x < gz Af 4) (rgH : rgI Hf 0 1000000 120) : WD (σ := ((Nat → Int) × (Nat → Int64) × (Nat → Nat → Int32) × (Nat → Nat → Int64))) l yX12_laysOrder cX12_laysOrder 3 none 6 0 0 D k [.ref hm, .int (iZ x)] [(hm, .inr (12, [.ref Ma, .ref Mn, .int (iZ Mst), .long Mtp, .long Mbt, .ref Ms, .ref My, .ref Mt, .ref Mp, .ref Mx, .int (iZ Mtd), .int (iZ Msz), .int (iZ Mtk), .int (iZ Mfr), .int (iZ Men), .int (iZ Mva), .int (iZ Mfk), .int (iZ Mfp), .int (iZ Mfs), .int (iZ Mse), .int (iZ Mlt), .ref Mo, .int (iZ Mdp), .int (iZ Mct), .ref Mk, .ref Ml, .ref Mb, .ref Mh, .ref Mc, .int (iZ Mdr), .int (iZ Mrs), .ref Mz, .ref Mr, .ref Mq, .int (iZ Mit), .int (iZ Mmk)])), (Ma, .inl (k 1, 5340, .inl Af)), (Mk, .inl (k 1, 6, .inl Kf)), (Ml, .inl (k 1, 6, .inl Lf)), (Mb, .inl (k 1, 6, .inl Bf)), (Mh, .inl (k 1, 120, .inl Hf))] (fun _ => none) (fun u => (KR (u.2.2.1 0) 6) ∧ (rgI (u.2.2.1 1) (-1) 5 6) ∧ (rgI (u.2.2.1 3) 0 1000000 120)) (fun u => [(hm, .inr (12, [.ref Ma, .ref Mn, .int (iZ Mst), .long Mtp, .long Mbt, .ref Ms, .ref My, .ref Mt, .ref Mp, .ref Mx, .int (iZ Mtd), .int (iZ Msz), .int (iZ Mtk), .int (iZ Mfr), .int (iZ Men), .int (iZ Mva), .int (iZ Mfk), .int (iZ Mfp), .int (iZ Mfs), .int (iZ Mse), .int (iZ Mlt), .ref Mo, .int (iZ Mdp), .int (iZ Mct), .ref Mk, .ref Ml, .ref Mb, .ref Mh, .ref Mc, .int (iZ Mdr), .int (iZ Mrs), .ref Mz, .ref Mr, .ref Mq, .int (iZ Mit), .int (iZ Mmk)])), (Ma, .inl (k 1, 5340, .inl Af)), (Mk, .inl (k 1, 6, .inl (u.2.2.1 0))), (Ml, .inl (k 1, 6, .inl (u.2.2.1 1))), (Mb, .inl (k 1, 6, .inl (u.2.2.1 2))), (Mh, .inl (k 1, 120, .inl (u.2.2.1 3)))]) := by
  refine MW (by decide) (Nat.le_of_ble_eq_true rfl) (fun p e s m below meth c ls A hx hb hml hr hlocks hin hts hown hKK hP hD hS hA hl => ?_)
  have hK := hKK.1
  have hl : lv_has ls 3 [(0, .ref hm), (1, .int (iZ x))] := hl
  obtain ⟨m0, m1, m3, m4, m5, mF, mO, mS⟩ := id hM
  have hod := mO x h9x.1 h9x.2
  refine lv_aload_n hx hb dX12_laysOrder_0 rfl (lv_at hl 0 rfl) ?_
  refine lv_aload_n hx hb dX12_laysOrder_1 rfl (lv_at hl 0 rfl) ?_
  refine va_get (D := D) (ci := 12) (v := .ref Ma) (C := RX12) (T := TX12) (N := 36) hx hb hts iX12 hown hK hP 0 rfl rfl 0 (by decide) (hts _ qf_X12_7) (fun _ h => h) rfl dX12_laysOrder_2 ?_
  refine lv_iload_n hx hb dX12_laysOrder_5 rfl (lv_at hl 1 rfl) ?_
  refine CRS (As := [.int (iZ x)]) (rest := [.ref Ma, .ref hm]) hx hb hml hown hts hKK (hP.sub (ws' := []) [] rfl) (m_givenRow l D k x) ci_X12_givenRow qm_X12_315 ⟨Nat.le_of_ble_eq_true rfl, Nat.le_of_ble_eq_true rfl⟩ ⟨Nat.le_of_ble_eq_true rfl, Nat.le_of_ble_eq_true rfl⟩ rfl hl.1 rfl (Nat.le_of_ble_eq_true rfl) dX12_laysOrder_6 ?_
  refine va_iald hx hb hK hP 1 1 rfl rfl (zin (e := (78 + (2 * x))) (n := 5340) ⟨by omega, by omega⟩ (by decide)) dX12_laysOrder_9 ?_
  refine lv_topi (fun x_1 ex_1 => ?_)
  obtain rfl : x_1 = iZ (gz Af (78 + (2 * x))) := ex_1.trans (gz_eq ⟨by omega, by omega⟩)
  have h_2 := gz_rg Af (78 + (2 * x))
  refine lv_aload_n hx hb dX12_laysOrder_10 rfl (lv_at hl 0 rfl) ?_
  refine va_get (D := D) (ci := 12) (v := .ref Ma) (C := RX12) (T := TX12) (N := 36) hx hb hts iX12 hown hK hP 0 rfl rfl 0 (by decide) (hts _ qf_X12_7) (fun _ h => h) rfl dX12_laysOrder_11 ?_
  refine lv_iload_n hx hb dX12_laysOrder_14 rfl (lv_at hl 1 rfl) ?_
  refine CRS (As := [.int (iZ x)]) (rest := [.ref Ma, .int (iZ (gz Af (78 + (2 * x)))), .ref hm]) hx hb hml hown hts hKK (hP.sub (ws' := []) [] rfl) (m_givenRow l D k x) ci_X12_givenRow qm_X12_315 ⟨Nat.le_of_ble_eq_true rfl, Nat.le_of_ble_eq_true rfl⟩ ⟨Nat.le_of_ble_eq_true rfl, Nat.le_of_ble_eq_true rfl⟩ rfl hl.1 rfl (Nat.le_of_ble_eq_true rfl) dX12_laysOrder_15 ?_
  refine lv_iconst (v := iZ 1) hx hb dX12_laysOrder_18 (by decide) ?_
  refine lv_iadd hx hb dX12_laysOrder_19 ?_
  refine lv_topi (fun x_3 ex_3 => ?_)
  obtain rfl : x_3 = iZ ((78 + (2 * x)) + 1) := ex_3.trans (iZ_add (78 + (2 * x)) 1)
  refine va_iald hx hb hK hP 1 1 rfl rfl (zin (e := ((78 + (2 * x)) + 1)) (n := 5340) ⟨by omega, by omega⟩ (by decide)) dX12_laysOrder_20 ?_
  refine lv_topi (fun x_4 ex_4 => ?_)
  obtain rfl : x_4 = iZ (gz Af ((78 + (2 * x)) + 1)) := ex_4.trans (gz_eq ⟨by omega, by omega⟩)
  have h_5 := gz_rg Af ((78 + (2 * x)) + 1)
  refine CWV (As := [.int (iZ (gz Af (78 + (2 * x)))), .int (iZ (gz Af ((78 + (2 * x)) + 1)))]) (rest := []) (wc := [(hm, .inr (12, [.ref Ma, .ref Mn, .int (iZ Mst), .long Mtp, .long Mbt, .ref Ms, .ref My, .ref Mt, .ref Mp, .ref Mx, .int (iZ Mtd), .int (iZ Msz), .int (iZ Mtk), .int (iZ Mfr), .int (iZ Men), .int (iZ Mva), .int (iZ Mfk), .int (iZ Mfp), .int (iZ Mfs), .int (iZ Mse), .int (iZ Mlt), .ref Mo, .int (iZ Mdp), .int (iZ Mct), .ref Mk, .ref Ml, .ref Mb, .ref Mh, .ref Mc, .int (iZ Mdr), .int (iZ Mrs), .ref Mz, .ref Mr, .ref Mq, .int (iZ Mit), .int (iZ Mmk)])), (Ma, .inl (k 1, 5340, .inl Af)), (Mk, .inl (k 1, 6, .inl Kf)), (Ml, .inl (k 1, 6, .inl Lf)), (Mb, .inl (k 1, 6, .inl Bf))]) (wr := [(Mh, .inl (k 1, 120, .inl Hf))]) hx hb hml hown hts hKK hP hD hS hA (m_lays l D k hm Ma Mn Ms My Mt Mp Mx Mo Mk Ml Mb Mh Mc Mz Mr Mq Mst Mtd Msz Mtk Mfr Men Mva Mfk Mfp Mfs Mse Mlt Mdp Mct Mdr Mrs Mit Mmk Mtp Mbt Af Kf Lf Bf (gz Af (78 + (2 * x))) (gz Af ((78 + (2 * x)) + 1)) hM ⟨by omega, by omega⟩ ⟨by omega, by omega⟩) ci_X12_lays qm_X12_302 ⟨Nat.le_of_ble_eq_true rfl, Nat.le_of_ble_eq_true rfl⟩ ⟨Nat.le_of_ble_eq_true rfl, Nat.le_of_ble_eq_true rfl⟩ [0, 1, 2, 3, 4] [5] rfl rfl rfl rfl rfl (by decide) 0 rfl rfl rfl hl.1 rfl (Nat.le_of_ble_eq_true rfl) dX12_laysOrder_21 (fun u_6 H locs hφ hP hD hS => ?_)
  obtain ⟨I_7, L_8, F_9, G_10⟩ := u_6
  obtain ⟨p_12, p_13⟩ : (KR (F_9 0) 6) ∧ (rgI (F_9 1) (-1) 5 6) := hφ
  refine W.eq (g2 := F0 m 24 ls []) rfl ?_
  refine lv_iconst (v := iZ 0) hx hb dX12_laysOrder_24 (by decide) ?_
  refine lv_istore_n (lv' := [(2, .int (iZ 0)), (0, .ref hm), (1, .int (iZ x))]) hx hb dX12_laysOrder_25 rfl hl (by decide) rfl (fun ls hl => ?_)
  have HL26 : ∀ (fu : Nat) (v2_26 : Int) (Hfq26 : Nat → Int32) (H : Heap) (locs : List Loc) (ls : Array Slot), ((5) + 2 - v2_26) < (fu : Int) → ((0 ≤ v2_26 ∧ v2_26 ≤ (5) + 1)) → (rgI Hfq26 0 1000000 120) → va_P D vwCl [(Mh, .inl (k 1, 120, .inl Hfq26)), (hm, .inr (12, [.ref Ma, .ref Mn, .int (iZ Mst), .long Mtp, .long Mbt, .ref Ms, .ref My, .ref Mt, .ref Mp, .ref Mx, .int (iZ Mtd), .int (iZ Msz), .int (iZ Mtk), .int (iZ Mfr), .int (iZ Men), .int (iZ Mva), .int (iZ Mfk), .int (iZ Mfp), .int (iZ Mfs), .int (iZ Mse), .int (iZ Mlt), .ref Mo, .int (iZ Mdp), .int (iZ Mct), .ref Mk, .ref Ml, .ref Mb, .ref Mh, .ref Mc, .int (iZ Mdr), .int (iZ Mrs), .ref Mz, .ref Mr, .ref Mq, .int (iZ Mit), .int (iZ Mmk)])), (Ma, .inl (k 1, 5340, .inl Af)), (Mk, .inl (k 1, 6, .inl (F_9 0))), (Ml, .inl (k 1, 6, .inl (F_9 1))), (Mb, .inl (k 1, 6, .inl (F_9 2)))] H → va_D A [(Mh, .inl (k 1, 120, .inl Hfq26)), (hm, .inr (12, [.ref Ma, .ref Mn, .int (iZ Mst), .long Mtp, .long Mbt, .ref Ms, .ref My, .ref Mt, .ref Mp, .ref Mx, .int (iZ Mtd), .int (iZ Msz), .int (iZ Mtk), .int (iZ Mfr), .int (iZ Men), .int (iZ Mva), .int (iZ Mfk), .int (iZ Mfp), .int (iZ Mfs), .int (iZ Mse), .int (iZ Mlt), .ref Mo, .int (iZ Mdp), .int (iZ Mct), .ref Mk, .ref Ml, .ref Mb, .ref Mh, .ref Mc, .int (iZ Mdr), .int (iZ Mrs), .ref Mz, .ref Mr, .ref Mq, .int (iZ Mit), .int (iZ Mmk)])), (Ma, .inl (k 1, 5340, .inl Af)), (Mk, .inl (k 1, 6, .inl (F_9 0))), (Ml, .inl (k 1, 6, .inl (F_9 1))), (Mb, .inl (k 1, 6, .inl (F_9 2)))] → va_S A s.heap H locs → lv_has ls 3 [(2, .int (iZ v2_26)), (0, .ref hm), (1, .int (iZ x))] → W p l e (rj 6 0 0) s m [.ref hm, .int (iZ x)].toArray below meth c H locs 0 0 (MQ below (QW (σ := ((Nat → Int) × (Nat → Int64) × (Nat → Nat → Int32) × (Nat → Nat → Int64))) (fun _ => none) (fun u => (KR (u.2.2.1 0) 6) ∧ (rgI (u.2.2.1 1) (-1) 5 6) ∧ (rgI (u.2.2.1 3) 0 1000000 120)) (fun u => [(hm, .inr (12, [.ref Ma, .ref Mn, .int (iZ Mst), .long Mtp, .long Mbt, .ref Ms, .ref My, .ref Mt, .ref Mp, .ref Mx, .int (iZ Mtd), .int (iZ Msz), .int (iZ Mtk), .int (iZ Mfr), .int (iZ Men), .int (iZ Mva), .int (iZ Mfk), .int (iZ Mfp), .int (iZ Mfs), .int (iZ Mse), .int (iZ Mlt), .ref Mo, .int (iZ Mdp), .int (iZ Mct), .ref Mk, .ref Ml, .ref Mb, .ref Mh, .ref Mc, .int (iZ Mdr), .int (iZ Mrs), .ref Mz, .ref Mr, .ref Mq, .int (iZ Mit), .int (iZ Mmk)])), (Ma, .inl (k 1, 5340, .inl Af)), (Mk, .inl (k 1, 6, .inl (u.2.2.1 0))), (Ml, .inl (k 1, 6, .inl (u.2.2.1 1))), (Mb, .inl (k 1, 6, .inl (u.2.2.1 2))), (Mh, .inl (k 1, 120, .inl (u.2.2.1 3)))]) D A) [.ref hm, .int (iZ x)].toArray s 0 0 A) (F0 m 26 ls []) := by
    intro fu
    induction fu with
    | zero => intro v2_26 Hfq26 H locs ls hμ26 hi26 rgh2 hP hD hS hl; exact absurd hμ26 (by omega)
    | succ fu ih26 =>
      intro v2_26 Hfq26 H locs ls hμ26 hi26 rgh2 hP hD hS hl
      refine lv_iload_n hx hb dX12_laysOrder_26 rfl (lv_at hl 0 rfl) ?_
      refine lv_bipush (v := iZ 6) hx hb dX12_laysOrder_27 (by decide) ?_
      refine lv_icmp_ge (tgt := 55) hx hb dX12_laysOrder_29 (by decide) (fun c_14 => ?_) (fun c_14 => ?_)
      ·
        have c_14 := (zle (x := iZ 6) (y := iZ v2_26) rfl rfl ⟨by omega, by omega⟩ ⟨by omega, by omega⟩).mp c_14
        exact EWv hx hb hr hlocks hS (fun i => [0].getD i 0, fun i => [0].getD i 0, fun i => [(F_9 0), (F_9 1), (F_9 2), Hfq26].getD i (fun _ => 0), fun i => [].getD i (fun _ => 0)) rfl ⟨(show KR (F_9 0) 6 from p_12), (show rgI (F_9 1) (-1) 5 6 from p_13), (show rgI Hfq26 0 1000000 120 from rgh2)⟩ (hP.sub [1, 2, 3, 4, 5, 0] rfl) (hD.sub [1, 2, 3, 4, 5, 0] rfl rfl) dX12_laysOrder_55
      ·
        have c_14 := mt (zle (x := iZ 6) (y := iZ v2_26) rfl rfl ⟨by omega, by omega⟩ ⟨by omega, by omega⟩).mpr c_14
        refine lv_aload_n hx hb dX12_laysOrder_32 rfl (lv_at hl 1 rfl) ?_
        refine va_get (D := D) (ci := 12) (v := .ref Mh) (C := RX12) (T := TX12) (N := 36) hx hb hts iX12 hown hK hP 1 rfl rfl 27 (by decide) (hts _ qf_X12_56) (fun _ h => h) rfl dX12_laysOrder_33 ?_
        refine lv_bipush (v := iZ 6) hx hb dX12_laysOrder_36 (by decide) ?_
        refine lv_iload_n hx hb dX12_laysOrder_38 rfl (lv_at hl 2 rfl) ?_
        refine lv_imul hx hb dX12_laysOrder_39 ?_
        refine lv_topi (fun x_15 ex_15 => ?_)
        obtain rfl : x_15 = iZ (6 * x) := ex_15.trans (iZ_mul 6 x)
        refine lv_iload_n hx hb dX12_laysOrder_40 rfl (lv_at hl 0 rfl) ?_
        refine lv_iadd hx hb dX12_laysOrder_41 ?_
        refine lv_topi (fun x_16 ex_16 => ?_)
        obtain rfl : x_16 = iZ ((6 * x) + v2_26) := ex_16.trans (iZ_add (6 * x) v2_26)
        refine lv_aload_n hx hb dX12_laysOrder_42 rfl (lv_at hl 1 rfl) ?_
        refine va_get (D := D) (ci := 12) (v := .ref Mk) (C := RX12) (T := TX12) (N := 36) hx hb hts iX12 hown hK hP 1 rfl rfl 24 (by decide) (hts _ qf_X12_47) (fun _ h => h) rfl dX12_laysOrder_43 ?_
        refine lv_iload_n hx hb dX12_laysOrder_46 rfl (lv_at hl 0 rfl) ?_
        refine va_iald hx hb hK hP 3 1 rfl rfl (zin (e := v2_26) (n := 6) ⟨by omega, by omega⟩ (by decide)) dX12_laysOrder_47 ?_
        refine lv_topi (fun x_17 ex_17 => ?_)
        obtain rfl : x_17 = iZ (gz (F_9 0) v2_26) := ex_17.trans (gz_eq ⟨by omega, by omega⟩)
        have h_18 := p_12 v2_26 (by omega) (by omega)
        refine va_iast hx hb hK hP hD hS 0 1 rfl rfl (zin (e := ((6 * x) + v2_26)) (n := 120) ⟨by omega, by omega⟩ (by decide)) dX12_laysOrder_48 (fun H locs hP hD hS => ?_)
        obtain ⟨f_19, hf_19⟩ : ∃ gg9, gg9 = upd Hfq26 (iZ ((6 * x) + v2_26)).toNatClampNeg (iZ (gz (F_9 0) v2_26)) := ⟨_, rfl⟩
        rw [← hf_19] at hP hD
        have rgf_19 := rg_upd rgh2 hf_19 (by omega) ⟨by omega, by omega⟩ ⟨by omega, by omega⟩
        refine lv_iinc (v := iZ (v2_26 + 1)) (lv' := [(2, .int (iZ (v2_26 + 1))), (0, .ref hm), (1, .int (iZ x))]) hx hb dX12_laysOrder_49 hl (k := 0) rfl (iZ_add v2_26 1) (by decide) rfl (fun ls hl => ?_)
        refine lv_goto (tgt := 26) hx hb dX12_laysOrder_52 (by decide) ?_
        exact ih26  (v2_26 + 1) f_19 _ _ _ (by omega) (show (0 ≤ (v2_26 + 1) ∧ (v2_26 + 1) ≤ (5) + 1) from ⟨by omega, by omega⟩) (show rgI f_19 0 1000000 120 from rgf_19) (hP.sub [0, 1, 2, 3, 4, 5] rfl) (hD.sub [0, 1, 2, 3, 4, 5] rfl rfl) hS (lv_sub hl [0, 1, 2] rfl)
  exact HL26 8 0 Hf _ _ _ (by omega) (show (0 ≤ 0 ∧ 0 ≤ (5) + 1) from ⟨by omega, by omega⟩) (show rgI Hf 0 1000000 120 from rgH) (hP.sub [0, 1, 2, 3, 4, 5] rfl) (hD.sub [0, 1, 2, 3, 4, 5] rfl rfl) hS (lv_sub hl [0, 1, 2] rfl)
set_option maxHeartbeats 4000000 in
set_option maxRecDepth 100000 in
theorem m_laysOrders (l : Launch) (D : va_G) (k : Nat → ClassId) (hm : Nat) (Ma : Nat) (Mn : Nat) (Ms : Nat) (My : Nat) (Mt : Nat) (Mp : Nat) (Mx : Nat) (Mo : Nat) (Mk : Nat) (Ml : Nat) (Mb : Nat) (Mh : Nat) (Mc : Nat) (Mz : Nat) (Mr : Nat) (Mq : Nat) (Mst : Int) (Mtd : Int) (Msz : Int) (Mtk : Int) (Mfr : Int) (Men : Int) (Mva : Int) (Mfk : Int) (Mfp : Int) (Mfs : Int) (Mse : Int) (Mlt : Int) (Mdp : Int) (Mct : Int) (Mdr : Int) (Mrs : Int) (Mit : Int) (Mmk : Int) (Mtp : Int64) (Mbt : Int64) (Af : Nat → Int32) (Kf : Nat → Int32) (Lf : Nat → Int32) (Bf : Nat → Int32) (Hf : Nat → Int32) (hM : M0 Af) (rgH : rgI Hf 0 1000000 120) : WD (σ := ((Nat → Int) × (Nat → Int64) × (Nat → Nat → Int32) × (Nat → Nat → Int64))) l yX12_laysOrders cX12_laysOrders 2 none 7 0 0 D k [.ref hm] [(hm, .inr (12, [.ref Ma, .ref Mn, .int (iZ Mst), .long Mtp, .long Mbt, .ref Ms, .ref My, .ref Mt, .ref Mp, .ref Mx, .int (iZ Mtd), .int (iZ Msz), .int (iZ Mtk), .int (iZ Mfr), .int (iZ Men), .int (iZ Mva), .int (iZ Mfk), .int (iZ Mfp), .int (iZ Mfs), .int (iZ Mse), .int (iZ Mlt), .ref Mo, .int (iZ Mdp), .int (iZ Mct), .ref Mk, .ref Ml, .ref Mb, .ref Mh, .ref Mc, .int (iZ Mdr), .int (iZ Mrs), .ref Mz, .ref Mr, .ref Mq, .int (iZ Mit), .int (iZ Mmk)])), (Ma, .inl (k 1, 5340, .inl Af)), (Mk, .inl (k 1, 6, .inl Kf)), (Ml, .inl (k 1, 6, .inl Lf)), (Mb, .inl (k 1, 6, .inl Bf)), (Mh, .inl (k 1, 120, .inl Hf))] (fun _ => none) (fun u => rgI (u.2.2.1 3) 0 1000000 120) (fun u => [(hm, .inr (12, [.ref Ma, .ref Mn, .int (iZ Mst), .long Mtp, .long Mbt, .ref Ms, .ref My, .ref Mt, .ref Mp, .ref Mx, .int (iZ Mtd), .int (iZ Msz), .int (iZ Mtk), .int (iZ Mfr), .int (iZ Men), .int (iZ Mva), .int (iZ Mfk), .int (iZ Mfp), .int (iZ Mfs), .int (iZ Mse), .int (iZ Mlt), .ref Mo, .int (iZ Mdp), .int (iZ Mct), .ref Mk, .ref Ml, .ref Mb, .ref Mh, .ref Mc, .int (iZ Mdr), .int (iZ Mrs), .ref Mz, .ref Mr, .ref Mq, .int (iZ Mit), .int (iZ Mmk)])), (Ma, .inl (k 1, 5340, .inl Af)), (Mk, .inl (k 1, 6, .inl (u.2.2.1 0))), (Ml, .inl (k 1, 6, .inl (u.2.2.1 1))), (Mb, .inl (k 1, 6, .inl (u.2.2.1 2))), (Mh, .inl (k 1, 120, .inl (u.2.2.1 3)))]) := by
  refine MW (by decide) (Nat.le_of_ble_eq_true rfl) (fun p e s m below meth c ls A hx hb hml hr hlocks hin hts hown hKK hP hD hS hA hl => ?_)
  have hK := hKK.1
  have hl : lv_has ls 2 [(0, .ref hm)] := hl
  obtain ⟨m0, m1, m3, m4, m5, mF, mO, mS⟩ := id hM
  refine lv_iconst (v := iZ 0) hx hb dX12_laysOrders_0 (by decide) ?_
  refine lv_istore_n (lv' := [(1, .int (iZ 0)), (0, .ref hm)]) hx hb dX12_laysOrders_1 rfl hl (by decide) rfl (fun ls hl => ?_)
  have HL2 : ∀ (fu : Nat) (v1_2 : Int) (Kfq2 : Nat → Int32) (Lfq2 : Nat → Int32) (Bfq2 : Nat → Int32) (Hfq2 : Nat → Int32) (H : Heap) (locs : List Loc) (ls : Array Slot), ((gz Af 4) + 2 - v1_2) < (fu : Int) → ((0 ≤ v1_2 ∧ v1_2 ≤ (gz Af 4) + 1)) → (rgI Hfq2 0 1000000 120) → va_P D vwCl [(hm, .inr (12, [.ref Ma, .ref Mn, .int (iZ Mst), .long Mtp, .long Mbt, .ref Ms, .ref My, .ref Mt, .ref Mp, .ref Mx, .int (iZ Mtd), .int (iZ Msz), .int (iZ Mtk), .int (iZ Mfr), .int (iZ Men), .int (iZ Mva), .int (iZ Mfk), .int (iZ Mfp), .int (iZ Mfs), .int (iZ Mse), .int (iZ Mlt), .ref Mo, .int (iZ Mdp), .int (iZ Mct), .ref Mk, .ref Ml, .ref Mb, .ref Mh, .ref Mc, .int (iZ Mdr), .int (iZ Mrs), .ref Mz, .ref Mr, .ref Mq, .int (iZ Mit), .int (iZ Mmk)])), (Ma, .inl (k 1, 5340, .inl Af)), (Mk, .inl (k 1, 6, .inl Kfq2)), (Ml, .inl (k 1, 6, .inl Lfq2)), (Mb, .inl (k 1, 6, .inl Bfq2)), (Mh, .inl (k 1, 120, .inl Hfq2))] H → va_D A [(hm, .inr (12, [.ref Ma, .ref Mn, .int (iZ Mst), .long Mtp, .long Mbt, .ref Ms, .ref My, .ref Mt, .ref Mp, .ref Mx, .int (iZ Mtd), .int (iZ Msz), .int (iZ Mtk), .int (iZ Mfr), .int (iZ Men), .int (iZ Mva), .int (iZ Mfk), .int (iZ Mfp), .int (iZ Mfs), .int (iZ Mse), .int (iZ Mlt), .ref Mo, .int (iZ Mdp), .int (iZ Mct), .ref Mk, .ref Ml, .ref Mb, .ref Mh, .ref Mc, .int (iZ Mdr), .int (iZ Mrs), .ref Mz, .ref Mr, .ref Mq, .int (iZ Mit), .int (iZ Mmk)])), (Ma, .inl (k 1, 5340, .inl Af)), (Mk, .inl (k 1, 6, .inl Kfq2)), (Ml, .inl (k 1, 6, .inl Lfq2)), (Mb, .inl (k 1, 6, .inl Bfq2)), (Mh, .inl (k 1, 120, .inl Hfq2))] → va_S A s.heap H locs → lv_has ls 2 [(1, .int (iZ v1_2)), (0, .ref hm)] → W p l e (rj 7 0 0) s m [.ref hm].toArray below meth c H locs 0 0 (MQ below (QW (σ := ((Nat → Int) × (Nat → Int64) × (Nat → Nat → Int32) × (Nat → Nat → Int64))) (fun _ => none) (fun u => rgI (u.2.2.1 3) 0 1000000 120) (fun u => [(hm, .inr (12, [.ref Ma, .ref Mn, .int (iZ Mst), .long Mtp, .long Mbt, .ref Ms, .ref My, .ref Mt, .ref Mp, .ref Mx, .int (iZ Mtd), .int (iZ Msz), .int (iZ Mtk), .int (iZ Mfr), .int (iZ Men), .int (iZ Mva), .int (iZ Mfk), .int (iZ Mfp), .int (iZ Mfs), .int (iZ Mse), .int (iZ Mlt), .ref Mo, .int (iZ Mdp), .int (iZ Mct), .ref Mk, .ref Ml, .ref Mb, .ref Mh, .ref Mc, .int (iZ Mdr), .int (iZ Mrs), .ref Mz, .ref Mr, .ref Mq, .int (iZ Mit), .int (iZ Mmk)])), (Ma, .inl (k 1, 5340, .inl Af)), (Mk, .inl (k 1, 6, .inl (u.2.2.1 0))), (Ml, .inl (k 1, 6, .inl (u.2.2.1 1))), (Mb, .inl (k 1, 6, .inl (u.2.2.1 2))), (Mh, .inl (k 1, 120, .inl (u.2.2.1 3)))]) D A) [.ref hm].toArray s 0 0 A) (F0 m 2 ls []) := by
    intro fu
    induction fu with
    | zero => intro v1_2 Kfq2 Lfq2 Bfq2 Hfq2 H locs ls hμ2 hi2 rgh2 hP hD hS hl; exact absurd hμ2 (by omega)
    | succ fu ih2 =>
      intro v1_2 Kfq2 Lfq2 Bfq2 Hfq2 H locs ls hμ2 hi2 rgh2 hP hD hS hl
      refine lv_iload_n hx hb dX12_laysOrders_2 rfl (lv_at hl 0 rfl) ?_
      refine lv_aload_n hx hb dX12_laysOrders_3 rfl (lv_at hl 1 rfl) ?_
      refine va_get (D := D) (ci := 12) (v := .ref Ma) (C := RX12) (T := TX12) (N := 36) hx hb hts iX12 hown hK hP 0 rfl rfl 0 (by decide) (hts _ qf_X12_7) (fun _ h => h) rfl dX12_laysOrders_4 ?_
      refine lv_iconst (v := iZ 4) hx hb dX12_laysOrders_7 (by decide) ?_
      refine va_iald hx hb hK hP 1 1 rfl rfl (zin (e := 4) (n := 5340) ⟨by omega, by omega⟩ (by decide)) dX12_laysOrders_8 ?_
      refine lv_topi (fun x_1 ex_1 => ?_)
      obtain rfl : x_1 = iZ (gz Af 4) := ex_1.trans (gz_eq ⟨by omega, by omega⟩)
      have h_2 := gz_rg Af 4
      refine lv_icmp_ge (tgt := 23) hx hb dX12_laysOrders_9 (by decide) (fun c_3 => ?_) (fun c_3 => ?_)
      ·
        have c_3 := (zle (x := iZ (gz Af 4)) (y := iZ v1_2) rfl rfl ⟨by omega, by omega⟩ ⟨by omega, by omega⟩).mp c_3
        exact EWv hx hb hr hlocks hS (fun i => [0].getD i 0, fun i => [0].getD i 0, fun i => [Kfq2, Lfq2, Bfq2, Hfq2].getD i (fun _ => 0), fun i => [].getD i (fun _ => 0)) rfl (show rgI Hfq2 0 1000000 120 from rgh2) (hP.sub [0, 1, 2, 3, 4, 5] rfl) (hD.sub [0, 1, 2, 3, 4, 5] rfl rfl) dX12_laysOrders_23
      ·
        have c_3 := mt (zle (x := iZ (gz Af 4)) (y := iZ v1_2) rfl rfl ⟨by omega, by omega⟩ ⟨by omega, by omega⟩).mpr c_3
        refine lv_aload_n hx hb dX12_laysOrders_12 rfl (lv_at hl 1 rfl) ?_
        refine lv_iload_n hx hb dX12_laysOrders_13 rfl (lv_at hl 0 rfl) ?_
        refine CWV (As := [.int (iZ v1_2)]) (rest := []) (wc := [(hm, .inr (12, [.ref Ma, .ref Mn, .int (iZ Mst), .long Mtp, .long Mbt, .ref Ms, .ref My, .ref Mt, .ref Mp, .ref Mx, .int (iZ Mtd), .int (iZ Msz), .int (iZ Mtk), .int (iZ Mfr), .int (iZ Men), .int (iZ Mva), .int (iZ Mfk), .int (iZ Mfp), .int (iZ Mfs), .int (iZ Mse), .int (iZ Mlt), .ref Mo, .int (iZ Mdp), .int (iZ Mct), .ref Mk, .ref Ml, .ref Mb, .ref Mh, .ref Mc, .int (iZ Mdr), .int (iZ Mrs), .ref Mz, .ref Mr, .ref Mq, .int (iZ Mit), .int (iZ Mmk)])), (Ma, .inl (k 1, 5340, .inl Af)), (Mk, .inl (k 1, 6, .inl Kfq2)), (Ml, .inl (k 1, 6, .inl Lfq2)), (Mb, .inl (k 1, 6, .inl Bfq2)), (Mh, .inl (k 1, 120, .inl Hfq2))]) (wr := []) hx hb hml hown hts hKK hP hD hS hA (m_laysOrder l D k hm Ma Mn Ms My Mt Mp Mx Mo Mk Ml Mb Mh Mc Mz Mr Mq Mst Mtd Msz Mtk Mfr Men Mva Mfk Mfp Mfs Mse Mlt Mdp Mct Mdr Mrs Mit Mmk Mtp Mbt Af Kfq2 Lfq2 Bfq2 Hfq2 v1_2 hM ⟨by omega, by omega⟩ rgh2) ci_X12_laysOrder qm_X12_318 ⟨Nat.le_of_ble_eq_true rfl, Nat.le_of_ble_eq_true rfl⟩ ⟨Nat.le_of_ble_eq_true rfl, Nat.le_of_ble_eq_true rfl⟩ [0, 1, 2, 3, 4, 5] [] rfl rfl rfl rfl rfl (by decide) 0 rfl rfl rfl hl.1 rfl (Nat.le_of_ble_eq_true rfl) dX12_laysOrders_14 (fun u_4 H locs hφ hP hD hS => ?_)
        obtain ⟨I_5, L_6, F_7, G_8⟩ := u_4
        obtain ⟨p_10, p_11, p_12⟩ : (KR (F_7 0) 6) ∧ (rgI (F_7 1) (-1) 5 6) ∧ (rgI (F_7 3) 0 1000000 120) := hφ
        refine W.eq (g2 := F0 m 17 ls []) rfl ?_
        refine lv_iinc (v := iZ (v1_2 + 1)) (lv' := [(1, .int (iZ (v1_2 + 1))), (0, .ref hm)]) hx hb dX12_laysOrders_17 hl (k := 0) rfl (iZ_add v1_2 1) (by decide) rfl (fun ls hl => ?_)
        refine lv_goto (tgt := 2) hx hb dX12_laysOrders_20 (by decide) ?_
        exact ih2  (v1_2 + 1) (F_7 0) (F_7 1) (F_7 2) (F_7 3) _ _ _ (by omega) (show (0 ≤ (v1_2 + 1) ∧ (v1_2 + 1) ≤ (gz Af 4) + 1) from ⟨by omega, by omega⟩) (show rgI (F_7 3) 0 1000000 120 from p_12) (hP.sub [0, 1, 2, 3, 4, 5] rfl) (hD.sub [0, 1, 2, 3, 4, 5] rfl rfl) hS (lv_sub hl [0, 1] rfl)
  exact HL2 24 0 Kf Lf Bf Hf _ _ _ (by omega) (show (0 ≤ 0 ∧ 0 ≤ (gz Af 4) + 1) from ⟨by omega, by omega⟩) (show rgI Hf 0 1000000 120 from rgH) (hP.sub [0, 1, 2, 3, 4, 5] rfl) (hD.sub [0, 1, 2, 3, 4, 5] rfl rfl) hS (lv_sub hl [0, 1] rfl)
set_option maxHeartbeats 4000000 in
set_option maxRecDepth 100000 in
theorem m_worth (l : Launch) (D : va_G) (k : Nat → ClassId) (fs : List Value) (hm : Nat) (Ma : Nat) (Mh : Nat) (Af : Nat → Int32) (Hf : Nat → Int32) (x : Int) (y : Int) (f0 : fs[0]? = some (.ref Ma)) (f27 : fs[27]? = some (.ref Mh)) (hM : M0 Af) (h9x : 0 ≤ x ∧ x < gz Af 4) (h9y : 0 ≤ y ∧ y < 6) (rgH : rgI Hf 0 1000000 120) : RP l yX12_worth cX12_worth 4 (some .int) 1 D k [.ref hm, .int (iZ x), .int (iZ y)] [(hm, .inr (12, fs)), (Ma, .inl (k 1, 5340, .inl Af)), (Mh, .inl (k 1, 120, .inl Hf))] (fun z => -1000000 ≤ z ∧ z ≤ 1000000) := by
  refine MRP (by decide) (Nat.le_of_ble_eq_true rfl) (fun p e s m below meth c ls hx hb hml hr hlocks hts hown hKK hP hl => ?_)
  have hK := hKK.1
  have hl : lv_has ls 4 [(0, .ref hm), (1, .int (iZ x)), (2, .int (iZ y))] := hl
  obtain ⟨m0, m1, m3, m4, m5, mF, mO, mS⟩ := id hM
  have hod := mO x h9x.1 h9x.2
  have hfx := hM.fx _ hod.1.1 hod.1.2
  refine lv_aload_n hx hb dX12_worth_0 rfl (lv_at hl 0 rfl) ?_
  refine va_get (D := D) (ci := 12) (v := .ref Ma) (C := RX12) (T := TX12) (N := 36) hx hb hts iX12 hown hK hP 0 rfl rfl 0 (by decide) (hts _ qf_X12_7) (fun _ h => h) f0 dX12_worth_1 ?_
  refine lv_iconst (v := iZ 2) hx hb dX12_worth_4 (by decide) ?_
  refine va_iald hx hb hK hP 1 1 rfl rfl (zin (e := 2) (n := 5340) ⟨by omega, by omega⟩ (by decide)) dX12_worth_5 ?_
  refine lv_topi (fun x_1 ex_1 => ?_)
  obtain rfl : x_1 = iZ (gz Af 2) := ex_1.trans (gz_eq ⟨by omega, by omega⟩)
  have h_2 := gz_rg Af 2
  refine lv_istore_n (lv' := [(3, .int (iZ (gz Af 2))), (0, .ref hm), (1, .int (iZ x)), (2, .int (iZ y))]) hx hb dX12_worth_6 rfl hl (by decide) rfl (fun ls hl => ?_)
  refine lv_iload_n hx hb dX12_worth_7 rfl (lv_at hl 0 rfl) ?_
  refine lv_if_ne (tgt := 25) hx hb dX12_worth_8 (by decide) (fun c_3 => ?_) (fun c_3 => ?_)
  ·
    have c_3 := mt (zeq (x := iZ (gz Af 2)) (y := iZ 0) rfl rfl ⟨by omega, by omega⟩ ⟨by omega, by omega⟩).mpr c_3
    refine lv_iload_n hx hb dX12_worth_25 rfl (lv_at hl 0 rfl) ?_
    refine lv_iconst (v := iZ 1) hx hb dX12_worth_26 (by decide) ?_
    refine lv_icmp_ne (tgt := 45) hx hb dX12_worth_27 (by decide) (fun c_4 => ?_) (fun c_4 => ?_)
    ·
      have c_4 := mt (zeq (x := iZ (gz Af 2)) (y := iZ 1) rfl rfl ⟨by omega, by omega⟩ ⟨by omega, by omega⟩).mpr c_4
      refine lv_iload_n hx hb dX12_worth_45 rfl (lv_at hl 0 rfl) ?_
      refine lv_iconst (v := iZ 2) hx hb dX12_worth_46 (by decide) ?_
      refine lv_icmp_ne (tgt := 73) hx hb dX12_worth_47 (by decide) (fun c_5 => ?_) (fun c_5 => ?_)
      ·
        have c_5 := mt (zeq (x := iZ (gz Af 2)) (y := iZ 2) rfl rfl ⟨by omega, by omega⟩ ⟨by omega, by omega⟩).mpr c_5
        refine lv_aload_n hx hb dX12_worth_73 rfl (lv_at hl 1 rfl) ?_
        refine va_get (D := D) (ci := 12) (v := .ref Ma) (C := RX12) (T := TX12) (N := 36) hx hb hts iX12 hown hK hP 0 rfl rfl 0 (by decide) (hts _ qf_X12_7) (fun _ h => h) f0 dX12_worth_74 ?_
        refine lv_iload_n hx hb dX12_worth_77 rfl (lv_at hl 2 rfl) ?_
        refine CRS (As := [.int (iZ x)]) (rest := [.ref Ma]) hx hb hml hown hts hKK (hP.sub (ws' := []) [] rfl) (m_givenRow l D k x) ci_X12_givenRow qm_X12_315 ⟨Nat.le_of_ble_eq_true rfl, Nat.le_of_ble_eq_true rfl⟩ ⟨Nat.le_of_ble_eq_true rfl, Nat.le_of_ble_eq_true rfl⟩ rfl hl.1 rfl (Nat.le_of_ble_eq_true rfl) dX12_worth_78 ?_
        refine lv_iconst (v := iZ 1) hx hb dX12_worth_81 (by decide) ?_
        refine lv_iadd hx hb dX12_worth_82 ?_
        refine lv_topi (fun x_6 ex_6 => ?_)
        obtain rfl : x_6 = iZ ((78 + (2 * x)) + 1) := ex_6.trans (iZ_add (78 + (2 * x)) 1)
        refine va_iald hx hb hK hP 1 1 rfl rfl (zin (e := ((78 + (2 * x)) + 1)) (n := 5340) ⟨by omega, by omega⟩ (by decide)) dX12_worth_83 ?_
        refine lv_topi (fun x_7 ex_7 => ?_)
        obtain rfl : x_7 = iZ (gz Af ((78 + (2 * x)) + 1)) := ex_7.trans (gz_eq ⟨by omega, by omega⟩)
        have h_8 := gz_rg Af ((78 + (2 * x)) + 1)
        exact EPi hx hb hr hlocks (by omega) dX12_worth_84
      ·
        have c_5 := (zeq (x := iZ (gz Af 2)) (y := iZ 2) rfl rfl ⟨by omega, by omega⟩ ⟨by omega, by omega⟩).mp c_5
        refine lv_aload_n hx hb dX12_worth_50 rfl (lv_at hl 1 rfl) ?_
        refine va_get (D := D) (ci := 12) (v := .ref Ma) (C := RX12) (T := TX12) (N := 36) hx hb hts iX12 hown hK hP 0 rfl rfl 0 (by decide) (hts _ qf_X12_7) (fun _ h => h) f0 dX12_worth_51 ?_
        refine lv_aload_n hx hb dX12_worth_54 rfl (lv_at hl 1 rfl) ?_
        refine va_get (D := D) (ci := 12) (v := .ref Ma) (C := RX12) (T := TX12) (N := 36) hx hb hts iX12 hown hK hP 0 rfl rfl 0 (by decide) (hts _ qf_X12_7) (fun _ h => h) f0 dX12_worth_55 ?_
        refine lv_iload_n hx hb dX12_worth_58 rfl (lv_at hl 2 rfl) ?_
        refine CRS (As := [.int (iZ x)]) (rest := [.ref Ma, .ref Ma]) hx hb hml hown hts hKK (hP.sub (ws' := []) [] rfl) (m_givenRow l D k x) ci_X12_givenRow qm_X12_315 ⟨Nat.le_of_ble_eq_true rfl, Nat.le_of_ble_eq_true rfl⟩ ⟨Nat.le_of_ble_eq_true rfl, Nat.le_of_ble_eq_true rfl⟩ rfl hl.1 rfl (Nat.le_of_ble_eq_true rfl) dX12_worth_59 ?_
        refine va_iald hx hb hK hP 1 1 rfl rfl (zin (e := (78 + (2 * x))) (n := 5340) ⟨by omega, by omega⟩ (by decide)) dX12_worth_62 ?_
        refine lv_topi (fun x_9 ex_9 => ?_)
        obtain rfl : x_9 = iZ (gz Af (78 + (2 * x))) := ex_9.trans (gz_eq ⟨by omega, by omega⟩)
        have h_10 := gz_rg Af (78 + (2 * x))
        refine CRS (As := [.int (iZ (gz Af (78 + (2 * x))))]) (rest := [.ref Ma]) hx hb hml hown hts hKK (hP.sub (ws' := []) [] rfl) (m_rockRow l D k (gz Af (78 + (2 * x)))) ci_X12_rockRow qm_X12_246 ⟨Nat.le_of_ble_eq_true rfl, Nat.le_of_ble_eq_true rfl⟩ ⟨Nat.le_of_ble_eq_true rfl, Nat.le_of_ble_eq_true rfl⟩ rfl hl.1 rfl (Nat.le_of_ble_eq_true rfl) dX12_worth_63 ?_
        refine lv_iconst (v := iZ 3) hx hb dX12_worth_66 (by decide) ?_
        refine lv_iadd hx hb dX12_worth_67 ?_
        refine lv_topi (fun x_11 ex_11 => ?_)
        obtain rfl : x_11 = iZ ((10 + (6 * (gz Af (78 + (2 * x))))) + 3) := ex_11.trans (iZ_add (10 + (6 * (gz Af (78 + (2 * x))))) 3)
        refine va_iald hx hb hK hP 1 1 rfl rfl (zin (e := ((10 + (6 * (gz Af (78 + (2 * x))))) + 3)) (n := 5340) ⟨by omega, by omega⟩ (by decide)) dX12_worth_68 ?_
        refine lv_topi (fun x_12 ex_12 => ?_)
        obtain rfl : x_12 = iZ (gz Af ((10 + (6 * (gz Af (78 + (2 * x))))) + 3)) := ex_12.trans (gz_eq ⟨by omega, by omega⟩)
        have h_13 := gz_rg Af ((10 + (6 * (gz Af (78 + (2 * x))))) + 3)
        refine lv_ineg hx hb dX12_worth_69 ?_
        refine lv_topi (fun x_14 ex_14 => ?_)
        obtain rfl : x_14 = iZ (-(gz Af ((10 + (6 * (gz Af (78 + (2 * x))))) + 3))) := ex_14.trans (iZ_neg (gz Af ((10 + (6 * (gz Af (78 + (2 * x))))) + 3)))
        refine lv_goto (tgt := 84) hx hb dX12_worth_70 (by decide) ?_
        exact EPi hx hb hr hlocks (by omega) dX12_worth_84
    ·
      have c_4 := (zeq (x := iZ (gz Af 2)) (y := iZ 1) rfl rfl ⟨by omega, by omega⟩ ⟨by omega, by omega⟩).mp c_4
      refine lv_aload_n hx hb dX12_worth_30 rfl (lv_at hl 1 rfl) ?_
      refine va_get (D := D) (ci := 12) (v := .ref Mh) (C := RX12) (T := TX12) (N := 36) hx hb hts iX12 hown hK hP 0 rfl rfl 27 (by decide) (hts _ qf_X12_56) (fun _ h => h) f27 dX12_worth_31 ?_
      refine lv_bipush (v := iZ 6) hx hb dX12_worth_34 (by decide) ?_
      refine lv_iload_n hx hb dX12_worth_36 rfl (lv_at hl 2 rfl) ?_
      refine lv_imul hx hb dX12_worth_37 ?_
      refine lv_topi (fun x_15 ex_15 => ?_)
      obtain rfl : x_15 = iZ (6 * x) := ex_15.trans (iZ_mul 6 x)
      refine lv_iload_n hx hb dX12_worth_38 rfl (lv_at hl 3 rfl) ?_
      refine lv_iadd hx hb dX12_worth_39 ?_
      refine lv_topi (fun x_16 ex_16 => ?_)
      obtain rfl : x_16 = iZ ((6 * x) + y) := ex_16.trans (iZ_add (6 * x) y)
      refine va_iald hx hb hK hP 2 1 rfl rfl (zin (e := ((6 * x) + y)) (n := 120) ⟨by omega, by omega⟩ (by decide)) dX12_worth_40 ?_
      refine lv_topi (fun x_17 ex_17 => ?_)
      obtain rfl : x_17 = iZ (gz Hf ((6 * x) + y)) := ex_17.trans (gz_eq ⟨by omega, by omega⟩)
      have h_18 := rgH ((6 * x) + y) (by omega) (by omega)
      refine lv_ineg hx hb dX12_worth_41 ?_
      refine lv_topi (fun x_19 ex_19 => ?_)
      obtain rfl : x_19 = iZ (-(gz Hf ((6 * x) + y))) := ex_19.trans (iZ_neg (gz Hf ((6 * x) + y)))
      refine lv_goto (tgt := 84) hx hb dX12_worth_42 (by decide) ?_
      exact EPi hx hb hr hlocks (by omega) dX12_worth_84
  ·
    have c_3 := (zeq (x := iZ (gz Af 2)) (y := iZ 0) rfl rfl ⟨by omega, by omega⟩ ⟨by omega, by omega⟩).mp c_3
    refine lv_aload_n hx hb dX12_worth_11 rfl (lv_at hl 1 rfl) ?_
    refine va_get (D := D) (ci := 12) (v := .ref Mh) (C := RX12) (T := TX12) (N := 36) hx hb hts iX12 hown hK hP 0 rfl rfl 27 (by decide) (hts _ qf_X12_56) (fun _ h => h) f27 dX12_worth_12 ?_
    refine lv_bipush (v := iZ 6) hx hb dX12_worth_15 (by decide) ?_
    refine lv_iload_n hx hb dX12_worth_17 rfl (lv_at hl 2 rfl) ?_
    refine lv_imul hx hb dX12_worth_18 ?_
    refine lv_topi (fun x_20 ex_20 => ?_)
    obtain rfl : x_20 = iZ (6 * x) := ex_20.trans (iZ_mul 6 x)
    refine lv_iload_n hx hb dX12_worth_19 rfl (lv_at hl 3 rfl) ?_
    refine lv_iadd hx hb dX12_worth_20 ?_
    refine lv_topi (fun x_21 ex_21 => ?_)
    obtain rfl : x_21 = iZ ((6 * x) + y) := ex_21.trans (iZ_add (6 * x) y)
    refine va_iald hx hb hK hP 2 1 rfl rfl (zin (e := ((6 * x) + y)) (n := 120) ⟨by omega, by omega⟩ (by decide)) dX12_worth_21 ?_
    refine lv_topi (fun x_22 ex_22 => ?_)
    obtain rfl : x_22 = iZ (gz Hf ((6 * x) + y)) := ex_22.trans (gz_eq ⟨by omega, by omega⟩)
    have h_23 := rgH ((6 * x) + y) (by omega) (by omega)
    refine lv_goto (tgt := 84) hx hb dX12_worth_22 (by decide) ?_
    exact EPi hx hb hr hlocks (by omega) dX12_worth_84
set_option maxHeartbeats 4000000 in
set_option maxRecDepth 100000 in
theorem m_ruling (l : Launch) (D : va_G) (k : Nat → ClassId) (fs : List Value) (hm : Nat) (Ma : Nat) (Mh : Nat) (Af : Nat → Int32) (Hf : Nat → Int32) (y : Int) (w : Int) (f0 : fs[0]? = some (.ref Ma)) (f27 : fs[27]? = some (.ref Mh)) (hM : M0 Af) (h9y : 0 ≤ y ∧ y < 6) (h9w : -2147483648 ≤ w ∧ w < 2147483648) (rgH : rgI Hf 0 1000000 120) : RP l yX12_ruling cX12_ruling 5 (some .int) 2 D k [.ref hm, .int (iZ y), .int (iZ w)] [(hm, .inr (12, fs)), (Ma, .inl (k 1, 5340, .inl Af)), (Mh, .inl (k 1, 120, .inl Hf))] (fun z => -1 ≤ z ∧ (z < gz Af 4 ∨ z = -1)) := by
  refine MRP (by decide) (Nat.le_of_ble_eq_true rfl) (fun p e s m below meth c ls hx hb hml hr hlocks hts hown hKK hP hl => ?_)
  have hK := hKK.1
  have hl : lv_has ls 5 [(0, .ref hm), (1, .int (iZ y)), (2, .int (iZ w))] := hl
  obtain ⟨m0, m1, m3, m4, m5, mF, mO, mS⟩ := id hM
  refine lv_iconst (v := iZ (-1)) hx hb dX12_ruling_0 (by decide) ?_
  refine lv_istore_n (lv' := [(3, .int (iZ (-1))), (0, .ref hm), (1, .int (iZ y)), (2, .int (iZ w))]) hx hb dX12_ruling_1 rfl hl (by decide) rfl (fun ls hl => ?_)
  refine lv_iconst (v := iZ 0) hx hb dX12_ruling_2 (by decide) ?_
  refine lv_istore (lv' := [(4, .int (iZ 0)), (3, .int (iZ (-1))), (0, .ref hm), (1, .int (iZ y)), (2, .int (iZ w))]) hx hb dX12_ruling_3 hl (by decide) rfl (fun ls hl => ?_)
  have HL5 : ∀ (fu : Nat) (v3_5 : Int) (v4_5 : Int) (ls : Array Slot), ((gz Af 4) + 2 - v4_5) < (fu : Int) → ((0 ≤ v4_5 ∧ v4_5 ≤ (gz Af 4) + 1)) → (-1 ≤ v3_5 ∧ (v3_5 < gz Af 4 ∨ v3_5 = -1)) → lv_has ls 5 [(4, .int (iZ v4_5)), (3, .int (iZ v3_5)), (0, .ref hm), (1, .int (iZ y)), (2, .int (iZ w))] → W p l e (rj 2 0 0) s m [.ref hm, .int (iZ y), .int (iZ w)].toArray below meth c s.heap [] 0 0 (MQ below (QcP (fun z => -1 ≤ z ∧ (z < gz Af 4 ∨ z = -1))) [.ref hm, .int (iZ y), .int (iZ w)].toArray s 0 0 (fun _ => False)) (F0 m 5 ls []) := by
    intro fu
    induction fu with
    | zero => intro v3_5 v4_5 ls hμ5 hi5 hf0_5 hl; exact absurd hμ5 (by omega)
    | succ fu ih5 =>
      intro v3_5 v4_5 ls hμ5 hi5 hf0_5 hl
      refine lv_iload hx hb dX12_ruling_5 (lv_at hl 0 rfl) ?_
      refine lv_aload_n hx hb dX12_ruling_7 rfl (lv_at hl 2 rfl) ?_
      refine va_get (D := D) (ci := 12) (v := .ref Ma) (C := RX12) (T := TX12) (N := 36) hx hb hts iX12 hown hK hP 0 rfl rfl 0 (by decide) (hts _ qf_X12_7) (fun _ h => h) f0 dX12_ruling_8 ?_
      refine lv_iconst (v := iZ 4) hx hb dX12_ruling_11 (by decide) ?_
      refine va_iald hx hb hK hP 1 1 rfl rfl (zin (e := 4) (n := 5340) ⟨by omega, by omega⟩ (by decide)) dX12_ruling_12 ?_
      refine lv_topi (fun x_1 ex_1 => ?_)
      obtain rfl : x_1 = iZ (gz Af 4) := ex_1.trans (gz_eq ⟨by omega, by omega⟩)
      have h_2 := gz_rg Af 4
      refine lv_icmp_ge (tgt := 62) hx hb dX12_ruling_13 (by decide) (fun c_3 => ?_) (fun c_3 => ?_)
      ·
        have c_3 := (zle (x := iZ (gz Af 4)) (y := iZ v4_5) rfl rfl ⟨by omega, by omega⟩ ⟨by omega, by omega⟩).mp c_3
        refine lv_iload_n hx hb dX12_ruling_62 rfl (lv_at hl 1 rfl) ?_
        exact EPi hx hb hr hlocks (by omega) dX12_ruling_63
      ·
        have c_3 := mt (zle (x := iZ (gz Af 4)) (y := iZ v4_5) rfl rfl ⟨by omega, by omega⟩ ⟨by omega, by omega⟩).mpr c_3
        refine lv_aload_n hx hb dX12_ruling_16 rfl (lv_at hl 2 rfl) ?_
        refine va_get (D := D) (ci := 12) (v := .ref Mh) (C := RX12) (T := TX12) (N := 36) hx hb hts iX12 hown hK hP 0 rfl rfl 27 (by decide) (hts _ qf_X12_56) (fun _ h => h) f27 dX12_ruling_17 ?_
        refine lv_bipush (v := iZ 6) hx hb dX12_ruling_20 (by decide) ?_
        refine lv_iload hx hb dX12_ruling_22 (lv_at hl 0 rfl) ?_
        refine lv_imul hx hb dX12_ruling_24 ?_
        refine lv_topi (fun x_4 ex_4 => ?_)
        obtain rfl : x_4 = iZ (6 * v4_5) := ex_4.trans (iZ_mul 6 v4_5)
        refine lv_iload_n hx hb dX12_ruling_25 rfl (lv_at hl 3 rfl) ?_
        refine lv_iadd hx hb dX12_ruling_26 ?_
        refine lv_topi (fun x_5 ex_5 => ?_)
        obtain rfl : x_5 = iZ ((6 * v4_5) + y) := ex_5.trans (iZ_add (6 * v4_5) y)
        refine va_iald hx hb hK hP 2 1 rfl rfl (zin (e := ((6 * v4_5) + y)) (n := 120) ⟨by omega, by omega⟩ (by decide)) dX12_ruling_27 ?_
        refine lv_topi (fun x_6 ex_6 => ?_)
        obtain rfl : x_6 = iZ (gz Hf ((6 * v4_5) + y)) := ex_6.trans (gz_eq ⟨by omega, by omega⟩)
        have h_7 := rgH ((6 * v4_5) + y) (by omega) (by omega)
        refine lv_iload_n hx hb dX12_ruling_28 rfl (lv_at hl 4 rfl) ?_
        refine lv_icmp_gt (tgt := 56) hx hb dX12_ruling_29 (by decide) (fun c_8 => ?_) (fun c_8 => ?_)
        ·
          have c_8 := (zlt (x := iZ w) (y := iZ (gz Hf ((6 * v4_5) + y))) rfl rfl ⟨by omega, by omega⟩ ⟨by omega, by omega⟩).mp c_8
          refine lv_iinc (v := iZ (v4_5 + 1)) (lv' := [(4, .int (iZ (v4_5 + 1))), (3, .int (iZ v3_5)), (0, .ref hm), (1, .int (iZ y)), (2, .int (iZ w))]) hx hb dX12_ruling_56 hl (k := 0) rfl (iZ_add v4_5 1) (by decide) rfl (fun ls hl => ?_)
          refine lv_goto (tgt := 5) hx hb dX12_ruling_59 (by decide) ?_
          exact ih5  v3_5 (v4_5 + 1) _ (by omega) (show (0 ≤ (v4_5 + 1) ∧ (v4_5 + 1) ≤ (gz Af 4) + 1) from ⟨by omega, by omega⟩) (show -1 ≤ v3_5 ∧ (v3_5 < gz Af 4 ∨ v3_5 = -1) from (by omega)) (lv_sub hl [0, 1, 2, 3, 4] rfl)
        ·
          have c_8 := mt (zlt (x := iZ w) (y := iZ (gz Hf ((6 * v4_5) + y))) rfl rfl ⟨by omega, by omega⟩ ⟨by omega, by omega⟩).mpr c_8
          refine lv_iload_n hx hb dX12_ruling_32 rfl (lv_at hl 1 rfl) ?_
          refine lv_iconst (v := iZ (-1)) hx hb dX12_ruling_33 (by decide) ?_
          refine lv_icmp_eq (tgt := 53) hx hb dX12_ruling_34 (by decide) (fun c_9 => ?_) (fun c_9 => ?_)
          ·
            have c_9 := (zeq (x := iZ v3_5) (y := iZ (-1)) rfl rfl ⟨by omega, by omega⟩ ⟨by omega, by omega⟩).mp c_9
            refine lv_iload hx hb dX12_ruling_53 (lv_at hl 0 rfl) ?_
            refine lv_istore_n (lv' := [(3, .int (iZ v4_5)), (4, .int (iZ v4_5)), (0, .ref hm), (1, .int (iZ y)), (2, .int (iZ w))]) hx hb dX12_ruling_55 rfl hl (by decide) rfl (fun ls hl => ?_)
            refine lv_iinc (v := iZ (v4_5 + 1)) (lv' := [(4, .int (iZ (v4_5 + 1))), (3, .int (iZ v4_5)), (0, .ref hm), (1, .int (iZ y)), (2, .int (iZ w))]) hx hb dX12_ruling_56 hl (k := 1) rfl (iZ_add v4_5 1) (by decide) rfl (fun ls hl => ?_)
            refine lv_goto (tgt := 5) hx hb dX12_ruling_59 (by decide) ?_
            exact ih5  v4_5 (v4_5 + 1) _ (by omega) (show (0 ≤ (v4_5 + 1) ∧ (v4_5 + 1) ≤ (gz Af 4) + 1) from ⟨by omega, by omega⟩) (show -1 ≤ v4_5 ∧ (v4_5 < gz Af 4 ∨ v4_5 = -1) from (by omega)) (lv_sub hl [0, 1, 2, 3, 4] rfl)
          ·
            have c_9 := mt (zeq (x := iZ v3_5) (y := iZ (-1)) rfl rfl ⟨by omega, by omega⟩ ⟨by omega, by omega⟩).mpr c_9
            refine lv_aload_n hx hb dX12_ruling_37 rfl (lv_at hl 2 rfl) ?_
            refine lv_iload hx hb dX12_ruling_38 (lv_at hl 0 rfl) ?_
            refine lv_iload_n hx hb dX12_ruling_40 rfl (lv_at hl 3 rfl) ?_
            refine CPV (As := [.int (iZ v4_5), .int (iZ y)]) (rest := []) hx hb hml hown hts hKK hP (m_worth l D k fs hm Ma Mh Af Hf v4_5 y f0 f27 hM ⟨by omega, by omega⟩ ⟨by omega, by omega⟩ rgH) ci_X12_worth qm_X12_327 ⟨Nat.le_of_ble_eq_true rfl, Nat.le_of_ble_eq_true rfl⟩ ⟨Nat.le_of_ble_eq_true rfl, Nat.le_of_ble_eq_true rfl⟩ 0 rfl rfl rfl hl.1 rfl (Nat.le_of_ble_eq_true rfl) dX12_ruling_41 (fun z_10 hz_10 => ?_)
            refine lv_aload_n hx hb dX12_ruling_44 rfl (lv_at hl 2 rfl) ?_
            refine lv_iload_n hx hb dX12_ruling_45 rfl (lv_at hl 1 rfl) ?_
            refine lv_iload_n hx hb dX12_ruling_46 rfl (lv_at hl 3 rfl) ?_
            refine CPV (As := [.int (iZ v3_5), .int (iZ y)]) (rest := [.int (iZ z_10)]) hx hb hml hown hts hKK hP (m_worth l D k fs hm Ma Mh Af Hf v3_5 y f0 f27 hM ⟨by omega, by omega⟩ ⟨by omega, by omega⟩ rgH) ci_X12_worth qm_X12_327 ⟨Nat.le_of_ble_eq_true rfl, Nat.le_of_ble_eq_true rfl⟩ ⟨Nat.le_of_ble_eq_true rfl, Nat.le_of_ble_eq_true rfl⟩ 0 rfl rfl rfl hl.1 rfl (Nat.le_of_ble_eq_true rfl) dX12_ruling_47 (fun z_11 hz_11 => ?_)
            refine lv_icmp_ge (tgt := 56) hx hb dX12_ruling_50 (by decide) (fun c_12 => ?_) (fun c_12 => ?_)
            ·
              have c_12 := (zle (x := iZ z_11) (y := iZ z_10) rfl rfl ⟨by omega, by omega⟩ ⟨by omega, by omega⟩).mp c_12
              refine lv_iinc (v := iZ (v4_5 + 1)) (lv' := [(4, .int (iZ (v4_5 + 1))), (3, .int (iZ v3_5)), (0, .ref hm), (1, .int (iZ y)), (2, .int (iZ w))]) hx hb dX12_ruling_56 hl (k := 0) rfl (iZ_add v4_5 1) (by decide) rfl (fun ls hl => ?_)
              refine lv_goto (tgt := 5) hx hb dX12_ruling_59 (by decide) ?_
              exact ih5  v3_5 (v4_5 + 1) _ (by omega) (show (0 ≤ (v4_5 + 1) ∧ (v4_5 + 1) ≤ (gz Af 4) + 1) from ⟨by omega, by omega⟩) (show -1 ≤ v3_5 ∧ (v3_5 < gz Af 4 ∨ v3_5 = -1) from (by omega)) (lv_sub hl [0, 1, 2, 3, 4] rfl)
            ·
              have c_12 := mt (zle (x := iZ z_11) (y := iZ z_10) rfl rfl ⟨by omega, by omega⟩ ⟨by omega, by omega⟩).mpr c_12
              refine lv_iload hx hb dX12_ruling_53 (lv_at hl 0 rfl) ?_
              refine lv_istore_n (lv' := [(3, .int (iZ v4_5)), (4, .int (iZ v4_5)), (0, .ref hm), (1, .int (iZ y)), (2, .int (iZ w))]) hx hb dX12_ruling_55 rfl hl (by decide) rfl (fun ls hl => ?_)
              refine lv_iinc (v := iZ (v4_5 + 1)) (lv' := [(4, .int (iZ (v4_5 + 1))), (3, .int (iZ v4_5)), (0, .ref hm), (1, .int (iZ y)), (2, .int (iZ w))]) hx hb dX12_ruling_56 hl (k := 1) rfl (iZ_add v4_5 1) (by decide) rfl (fun ls hl => ?_)
              refine lv_goto (tgt := 5) hx hb dX12_ruling_59 (by decide) ?_
              exact ih5  v4_5 (v4_5 + 1) _ (by omega) (show (0 ≤ (v4_5 + 1) ∧ (v4_5 + 1) ≤ (gz Af 4) + 1) from ⟨by omega, by omega⟩) (show -1 ≤ v4_5 ∧ (v4_5 < gz Af 4 ∨ v4_5 = -1) from (by omega)) (lv_sub hl [0, 1, 2, 3, 4] rfl)
  exact HL5 24 (-1) 0 _ (by omega) (show (0 ≤ 0 ∧ 0 ≤ (gz Af 4) + 1) from ⟨by omega, by omega⟩) (show -1 ≤ (-1) ∧ ((-1) < gz Af 4 ∨ (-1) = -1) from (by omega)) (lv_sub hl [0, 1, 2, 3, 4] rfl)
set_option maxHeartbeats 4000000 in
set_option maxRecDepth 100000 in
theorem m_isOne (l : Launch) (D : va_G) (k : Nat → ClassId) (fs : List Value) (hm : Nat) (Ma : Nat) (Mh : Nat) (Af : Nat → Int32) (Hf : Nat → Int32) (x : Int) (y : Int) (f0 : fs[0]? = some (.ref Ma)) (f27 : fs[27]? = some (.ref Mh)) (hM : M0 Af) (h9x : 0 ≤ x ∧ x < gz Af 4) (h9y : 0 ≤ y ∧ y < gz Af 4) (rgH : rgI Hf 0 1000000 120) : RP l yX12_isOne cX12_isOne 8 (some .boolean) 0 D k [.ref hm, .int (iZ x), .int (iZ y)] [(hm, .inr (12, fs)), (Ma, .inl (k 1, 5340, .inl Af)), (Mh, .inl (k 1, 120, .inl Hf))] (fun z => z = 0 ∨ z = 1) := by
  refine MRP (by decide) (Nat.le_of_ble_eq_true rfl) (fun p e s m below meth c ls hx hb hml hr hlocks hts hown hKK hP hl => ?_)
  have hK := hKK.1
  have hl : lv_has ls 8 [(0, .ref hm), (1, .int (iZ x)), (2, .int (iZ y))] := hl
  obtain ⟨m0, m1, m3, m4, m5, mF, mO, mS⟩ := id hM
  refine lv_iconst (v := iZ (-1)) hx hb dX12_isOne_0 (by decide) ?_
  refine lv_istore_n (lv' := [(3, .int (iZ (-1))), (0, .ref hm), (1, .int (iZ x)), (2, .int (iZ y))]) hx hb dX12_isOne_1 rfl hl (by decide) rfl (fun ls hl => ?_)
  refine lv_iconst (v := iZ 0) hx hb dX12_isOne_2 (by decide) ?_
  refine lv_istore (lv' := [(4, .int (iZ 0)), (3, .int (iZ (-1))), (0, .ref hm), (1, .int (iZ x)), (2, .int (iZ y))]) hx hb dX12_isOne_3 hl (by decide) rfl (fun ls hl => ?_)
  have HL5 : ∀ (fu : Nat) (v3_5 : Int) (v4_5 : Int) (ls : Array Slot), ((gz Af 0) + 2 - v4_5) < (fu : Int) → ((0 ≤ v4_5 ∧ v4_5 ≤ (gz Af 0) + 1)) → (-1 ≤ v3_5 ∧ v3_5 ≤ 2) → lv_has ls 8 [(4, .int (iZ v4_5)), (3, .int (iZ v3_5)), (0, .ref hm), (1, .int (iZ x)), (2, .int (iZ y))] → W p l e (rj 0 0 0) s m [.ref hm, .int (iZ x), .int (iZ y)].toArray below meth c s.heap [] 0 0 (MQ below (QcP (fun z => z = 0 ∨ z = 1)) [.ref hm, .int (iZ x), .int (iZ y)].toArray s 0 0 (fun _ => False)) (F0 m 5 ls []) := by
    intro fu
    induction fu with
    | zero => intro v3_5 v4_5 ls hμ5 hi5 hf0_5 hl; exact absurd hμ5 (by omega)
    | succ fu ih5 =>
      intro v3_5 v4_5 ls hμ5 hi5 hf0_5 hl
      refine lv_iload hx hb dX12_isOne_5 (lv_at hl 0 rfl) ?_
      refine lv_aload_n hx hb dX12_isOne_7 rfl (lv_at hl 2 rfl) ?_
      refine va_get (D := D) (ci := 12) (v := .ref Ma) (C := RX12) (T := TX12) (N := 36) hx hb hts iX12 hown hK hP 0 rfl rfl 0 (by decide) (hts _ qf_X12_7) (fun _ h => h) f0 dX12_isOne_8 ?_
      refine lv_iconst (v := iZ 0) hx hb dX12_isOne_11 (by decide) ?_
      refine va_iald hx hb hK hP 1 1 rfl rfl (zin (e := 0) (n := 5340) ⟨by omega, by omega⟩ (by decide)) dX12_isOne_12 ?_
      refine lv_topi (fun x_1 ex_1 => ?_)
      obtain rfl : x_1 = iZ (gz Af 0) := ex_1.trans (gz_eq ⟨by omega, by omega⟩)
      have h_2 := gz_rg Af 0
      refine lv_icmp_ge (tgt := 108) hx hb dX12_isOne_13 (by decide) (fun c_3 => ?_) (fun c_3 => ?_)
      ·
        have c_3 := (zle (x := iZ (gz Af 0)) (y := iZ v4_5) rfl rfl ⟨by omega, by omega⟩ ⟨by omega, by omega⟩).mp c_3
        refine lv_iconst (v := iZ 1) hx hb dX12_isOne_108 (by decide) ?_
        exact EPz hx hb hr hlocks (by omega) (by omega) dX12_isOne_109
      ·
        have c_3 := mt (zle (x := iZ (gz Af 0)) (y := iZ v4_5) rfl rfl ⟨by omega, by omega⟩ ⟨by omega, by omega⟩).mpr c_3
        refine lv_aload_n hx hb dX12_isOne_16 rfl (lv_at hl 2 rfl) ?_
        refine va_get (D := D) (ci := 12) (v := .ref Mh) (C := RX12) (T := TX12) (N := 36) hx hb hts iX12 hown hK hP 0 rfl rfl 27 (by decide) (hts _ qf_X12_56) (fun _ h => h) f27 dX12_isOne_17 ?_
        refine lv_bipush (v := iZ 6) hx hb dX12_isOne_20 (by decide) ?_
        refine lv_iload_n hx hb dX12_isOne_22 rfl (lv_at hl 3 rfl) ?_
        refine lv_imul hx hb dX12_isOne_23 ?_
        refine lv_topi (fun x_4 ex_4 => ?_)
        obtain rfl : x_4 = iZ (6 * x) := ex_4.trans (iZ_mul 6 x)
        refine lv_iload hx hb dX12_isOne_24 (lv_at hl 0 rfl) ?_
        refine lv_iadd hx hb dX12_isOne_26 ?_
        refine lv_topi (fun x_5 ex_5 => ?_)
        obtain rfl : x_5 = iZ ((6 * x) + v4_5) := ex_5.trans (iZ_add (6 * x) v4_5)
        refine va_iald hx hb hK hP 2 1 rfl rfl (zin (e := ((6 * x) + v4_5)) (n := 120) ⟨by omega, by omega⟩ (by decide)) dX12_isOne_27 ?_
        refine lv_topi (fun x_6 ex_6 => ?_)
        obtain rfl : x_6 = iZ (gz Hf ((6 * x) + v4_5)) := ex_6.trans (gz_eq ⟨by omega, by omega⟩)
        have h_7 := rgH ((6 * x) + v4_5) (by omega) (by omega)
        refine lv_istore (lv' := [(5, .int (iZ (gz Hf ((6 * x) + v4_5)))), (4, .int (iZ v4_5)), (3, .int (iZ v3_5)), (0, .ref hm), (1, .int (iZ x)), (2, .int (iZ y))]) hx hb dX12_isOne_28 hl (by decide) rfl (fun ls hl => ?_)
        refine lv_aload_n hx hb dX12_isOne_30 rfl (lv_at hl 3 rfl) ?_
        refine va_get (D := D) (ci := 12) (v := .ref Mh) (C := RX12) (T := TX12) (N := 36) hx hb hts iX12 hown hK hP 0 rfl rfl 27 (by decide) (hts _ qf_X12_56) (fun _ h => h) f27 dX12_isOne_31 ?_
        refine lv_bipush (v := iZ 6) hx hb dX12_isOne_34 (by decide) ?_
        refine lv_iload_n hx hb dX12_isOne_36 rfl (lv_at hl 5 rfl) ?_
        refine lv_imul hx hb dX12_isOne_37 ?_
        refine lv_topi (fun x_8 ex_8 => ?_)
        obtain rfl : x_8 = iZ (6 * y) := ex_8.trans (iZ_mul 6 y)
        refine lv_iload hx hb dX12_isOne_38 (lv_at hl 1 rfl) ?_
        refine lv_iadd hx hb dX12_isOne_40 ?_
        refine lv_topi (fun x_9 ex_9 => ?_)
        obtain rfl : x_9 = iZ ((6 * y) + v4_5) := ex_9.trans (iZ_add (6 * y) v4_5)
        refine va_iald hx hb hK hP 2 1 rfl rfl (zin (e := ((6 * y) + v4_5)) (n := 120) ⟨by omega, by omega⟩ (by decide)) dX12_isOne_41 ?_
        refine lv_topi (fun x_10 ex_10 => ?_)
        obtain rfl : x_10 = iZ (gz Hf ((6 * y) + v4_5)) := ex_10.trans (gz_eq ⟨by omega, by omega⟩)
        have h_11 := rgH ((6 * y) + v4_5) (by omega) (by omega)
        refine lv_istore (lv' := [(6, .int (iZ (gz Hf ((6 * y) + v4_5)))), (5, .int (iZ (gz Hf ((6 * x) + v4_5)))), (4, .int (iZ v4_5)), (3, .int (iZ v3_5)), (0, .ref hm), (1, .int (iZ x)), (2, .int (iZ y))]) hx hb dX12_isOne_42 hl (by decide) rfl (fun ls hl => ?_)
        refine lv_iload hx hb dX12_isOne_44 (lv_at hl 1 rfl) ?_
        refine lv_ldc (own := RX12) (v := 1000000) hx hb hown (hts _ qk_X12_88) dX12_isOne_46 ?_
        refine W.eq (g2 := F0 m 48 ls [.int (iZ 1000000), .int (iZ (gz Hf ((6 * x) + v4_5)))]) rfl ?_
        refine lv_icmp_eq (tgt := 102) hx hb dX12_isOne_48 (by decide) (fun c_12 => ?_) (fun c_12 => ?_)
        ·
          have c_12 := (zeq (x := iZ (gz Hf ((6 * x) + v4_5))) (y := iZ 1000000) rfl rfl ⟨by omega, by omega⟩ ⟨by omega, by omega⟩).mp c_12
          refine lv_iinc (v := iZ (v4_5 + 1)) (lv' := [(4, .int (iZ (v4_5 + 1))), (6, .int (iZ (gz Hf ((6 * y) + v4_5)))), (5, .int (iZ (gz Hf ((6 * x) + v4_5)))), (3, .int (iZ v3_5)), (0, .ref hm), (1, .int (iZ x)), (2, .int (iZ y))]) hx hb dX12_isOne_102 hl (k := 2) rfl (iZ_add v4_5 1) (by decide) rfl (fun ls hl => ?_)
          refine lv_goto (tgt := 5) hx hb dX12_isOne_105 (by decide) ?_
          exact ih5  v3_5 (v4_5 + 1) _ (by omega) (show (0 ≤ (v4_5 + 1) ∧ (v4_5 + 1) ≤ (gz Af 0) + 1) from ⟨by omega, by omega⟩) (show -1 ≤ v3_5 ∧ v3_5 ≤ 2 from (by omega)) (lv_sub hl [0, 3, 4, 5, 6] rfl)
        ·
          have c_12 := mt (zeq (x := iZ (gz Hf ((6 * x) + v4_5))) (y := iZ 1000000) rfl rfl ⟨by omega, by omega⟩ ⟨by omega, by omega⟩).mpr c_12
          refine lv_iload hx hb dX12_isOne_51 (lv_at hl 0 rfl) ?_
          refine lv_ldc (own := RX12) (v := 1000000) hx hb hown (hts _ qk_X12_88) dX12_isOne_53 ?_
          refine W.eq (g2 := F0 m 55 ls [.int (iZ 1000000), .int (iZ (gz Hf ((6 * y) + v4_5)))]) rfl ?_
          refine lv_icmp_ne (tgt := 61) hx hb dX12_isOne_55 (by decide) (fun c_13 => ?_) (fun c_13 => ?_)
          ·
            have c_13 := mt (zeq (x := iZ (gz Hf ((6 * y) + v4_5))) (y := iZ 1000000) rfl rfl ⟨by omega, by omega⟩ ⟨by omega, by omega⟩).mpr c_13
            refine lv_iload hx hb dX12_isOne_61 (lv_at hl 1 rfl) ?_
            refine lv_iload hx hb dX12_isOne_63 (lv_at hl 0 rfl) ?_
            refine lv_icmp_ge (tgt := 72) hx hb dX12_isOne_65 (by decide) (fun c_14 => ?_) (fun c_14 => ?_)
            ·
              have c_14 := (zle (x := iZ (gz Hf ((6 * y) + v4_5))) (y := iZ (gz Hf ((6 * x) + v4_5))) rfl rfl ⟨by omega, by omega⟩ ⟨by omega, by omega⟩).mp c_14
              refine lv_iload hx hb dX12_isOne_72 (lv_at hl 1 rfl) ?_
              refine lv_iload hx hb dX12_isOne_74 (lv_at hl 0 rfl) ?_
              refine lv_icmp_le (tgt := 83) hx hb dX12_isOne_76 (by decide) (fun c_15 => ?_) (fun c_15 => ?_)
              ·
                have c_15 := (zle (x := iZ (gz Hf ((6 * x) + v4_5))) (y := iZ (gz Hf ((6 * y) + v4_5))) rfl rfl ⟨by omega, by omega⟩ ⟨by omega, by omega⟩).mp c_15
                refine lv_iconst (v := iZ 2) hx hb dX12_isOne_83 (by decide) ?_
                refine lv_istore (lv' := [(7, .int (iZ 2)), (6, .int (iZ (gz Hf ((6 * y) + v4_5)))), (5, .int (iZ (gz Hf ((6 * x) + v4_5)))), (4, .int (iZ v4_5)), (3, .int (iZ v3_5)), (0, .ref hm), (1, .int (iZ x)), (2, .int (iZ y))]) hx hb dX12_isOne_84 hl (by decide) rfl (fun ls hl => ?_)
                refine lv_iload_n hx hb dX12_isOne_86 rfl (lv_at hl 4 rfl) ?_
                refine lv_iconst (v := iZ (-1)) hx hb dX12_isOne_87 (by decide) ?_
                refine lv_icmp_eq (tgt := 99) hx hb dX12_isOne_88 (by decide) (fun c_16 => ?_) (fun c_16 => ?_)
                ·
                  have c_16 := (zeq (x := iZ v3_5) (y := iZ (-1)) rfl rfl ⟨by omega, by omega⟩ ⟨by omega, by omega⟩).mp c_16
                  refine lv_iload hx hb dX12_isOne_99 (lv_at hl 0 rfl) ?_
                  refine lv_istore_n (lv' := [(3, .int (iZ 2)), (7, .int (iZ 2)), (6, .int (iZ (gz Hf ((6 * y) + v4_5)))), (5, .int (iZ (gz Hf ((6 * x) + v4_5)))), (4, .int (iZ v4_5)), (0, .ref hm), (1, .int (iZ x)), (2, .int (iZ y))]) hx hb dX12_isOne_101 rfl hl (by decide) rfl (fun ls hl => ?_)
                  refine lv_iinc (v := iZ (v4_5 + 1)) (lv' := [(4, .int (iZ (v4_5 + 1))), (3, .int (iZ 2)), (7, .int (iZ 2)), (6, .int (iZ (gz Hf ((6 * y) + v4_5)))), (5, .int (iZ (gz Hf ((6 * x) + v4_5)))), (0, .ref hm), (1, .int (iZ x)), (2, .int (iZ y))]) hx hb dX12_isOne_102 hl (k := 4) rfl (iZ_add v4_5 1) (by decide) rfl (fun ls hl => ?_)
                  refine lv_goto (tgt := 5) hx hb dX12_isOne_105 (by decide) ?_
                  exact ih5  2 (v4_5 + 1) _ (by omega) (show (0 ≤ (v4_5 + 1) ∧ (v4_5 + 1) ≤ (gz Af 0) + 1) from ⟨by omega, by omega⟩) (show -1 ≤ 2 ∧ 2 ≤ 2 from (by omega)) (lv_sub hl [0, 1, 5, 6, 7] rfl)
                ·
                  have c_16 := mt (zeq (x := iZ v3_5) (y := iZ (-1)) rfl rfl ⟨by omega, by omega⟩ ⟨by omega, by omega⟩).mpr c_16
                  refine lv_iload_n hx hb dX12_isOne_91 rfl (lv_at hl 4 rfl) ?_
                  refine lv_iload hx hb dX12_isOne_92 (lv_at hl 0 rfl) ?_
                  refine lv_icmp_eq (tgt := 99) hx hb dX12_isOne_94 (by decide) (fun c_17 => ?_) (fun c_17 => ?_)
                  ·
                    have c_17 := (zeq (x := iZ v3_5) (y := iZ 2) rfl rfl ⟨by omega, by omega⟩ ⟨by omega, by omega⟩).mp c_17
                    refine lv_iload hx hb dX12_isOne_99 (lv_at hl 0 rfl) ?_
                    refine lv_istore_n (lv' := [(3, .int (iZ 2)), (7, .int (iZ 2)), (6, .int (iZ (gz Hf ((6 * y) + v4_5)))), (5, .int (iZ (gz Hf ((6 * x) + v4_5)))), (4, .int (iZ v4_5)), (0, .ref hm), (1, .int (iZ x)), (2, .int (iZ y))]) hx hb dX12_isOne_101 rfl hl (by decide) rfl (fun ls hl => ?_)
                    refine lv_iinc (v := iZ (v4_5 + 1)) (lv' := [(4, .int (iZ (v4_5 + 1))), (3, .int (iZ 2)), (7, .int (iZ 2)), (6, .int (iZ (gz Hf ((6 * y) + v4_5)))), (5, .int (iZ (gz Hf ((6 * x) + v4_5)))), (0, .ref hm), (1, .int (iZ x)), (2, .int (iZ y))]) hx hb dX12_isOne_102 hl (k := 4) rfl (iZ_add v4_5 1) (by decide) rfl (fun ls hl => ?_)
                    refine lv_goto (tgt := 5) hx hb dX12_isOne_105 (by decide) ?_
                    exact ih5  2 (v4_5 + 1) _ (by omega) (show (0 ≤ (v4_5 + 1) ∧ (v4_5 + 1) ≤ (gz Af 0) + 1) from ⟨by omega, by omega⟩) (show -1 ≤ 2 ∧ 2 ≤ 2 from (by omega)) (lv_sub hl [0, 1, 5, 6, 7] rfl)
                  ·
                    have c_17 := mt (zeq (x := iZ v3_5) (y := iZ 2) rfl rfl ⟨by omega, by omega⟩ ⟨by omega, by omega⟩).mpr c_17
                    refine lv_iconst (v := iZ 0) hx hb dX12_isOne_97 (by decide) ?_
                    exact EPz hx hb hr hlocks (by omega) (by omega) dX12_isOne_98
              ·
                have c_15 := mt (zle (x := iZ (gz Hf ((6 * x) + v4_5))) (y := iZ (gz Hf ((6 * y) + v4_5))) rfl rfl ⟨by omega, by omega⟩ ⟨by omega, by omega⟩).mpr c_15
                refine lv_iconst (v := iZ 1) hx hb dX12_isOne_79 (by decide) ?_
                refine lv_goto (tgt := 84) hx hb dX12_isOne_80 (by decide) ?_
                refine lv_istore (lv' := [(7, .int (iZ 1)), (6, .int (iZ (gz Hf ((6 * y) + v4_5)))), (5, .int (iZ (gz Hf ((6 * x) + v4_5)))), (4, .int (iZ v4_5)), (3, .int (iZ v3_5)), (0, .ref hm), (1, .int (iZ x)), (2, .int (iZ y))]) hx hb dX12_isOne_84 hl (by decide) rfl (fun ls hl => ?_)
                refine lv_iload_n hx hb dX12_isOne_86 rfl (lv_at hl 4 rfl) ?_
                refine lv_iconst (v := iZ (-1)) hx hb dX12_isOne_87 (by decide) ?_
                refine lv_icmp_eq (tgt := 99) hx hb dX12_isOne_88 (by decide) (fun c_18 => ?_) (fun c_18 => ?_)
                ·
                  have c_18 := (zeq (x := iZ v3_5) (y := iZ (-1)) rfl rfl ⟨by omega, by omega⟩ ⟨by omega, by omega⟩).mp c_18
                  refine lv_iload hx hb dX12_isOne_99 (lv_at hl 0 rfl) ?_
                  refine lv_istore_n (lv' := [(3, .int (iZ 1)), (7, .int (iZ 1)), (6, .int (iZ (gz Hf ((6 * y) + v4_5)))), (5, .int (iZ (gz Hf ((6 * x) + v4_5)))), (4, .int (iZ v4_5)), (0, .ref hm), (1, .int (iZ x)), (2, .int (iZ y))]) hx hb dX12_isOne_101 rfl hl (by decide) rfl (fun ls hl => ?_)
                  refine lv_iinc (v := iZ (v4_5 + 1)) (lv' := [(4, .int (iZ (v4_5 + 1))), (3, .int (iZ 1)), (7, .int (iZ 1)), (6, .int (iZ (gz Hf ((6 * y) + v4_5)))), (5, .int (iZ (gz Hf ((6 * x) + v4_5)))), (0, .ref hm), (1, .int (iZ x)), (2, .int (iZ y))]) hx hb dX12_isOne_102 hl (k := 4) rfl (iZ_add v4_5 1) (by decide) rfl (fun ls hl => ?_)
                  refine lv_goto (tgt := 5) hx hb dX12_isOne_105 (by decide) ?_
                  exact ih5  1 (v4_5 + 1) _ (by omega) (show (0 ≤ (v4_5 + 1) ∧ (v4_5 + 1) ≤ (gz Af 0) + 1) from ⟨by omega, by omega⟩) (show -1 ≤ 1 ∧ 1 ≤ 2 from (by omega)) (lv_sub hl [0, 1, 5, 6, 7] rfl)
                ·
                  have c_18 := mt (zeq (x := iZ v3_5) (y := iZ (-1)) rfl rfl ⟨by omega, by omega⟩ ⟨by omega, by omega⟩).mpr c_18
                  refine lv_iload_n hx hb dX12_isOne_91 rfl (lv_at hl 4 rfl) ?_
                  refine lv_iload hx hb dX12_isOne_92 (lv_at hl 0 rfl) ?_
                  refine lv_icmp_eq (tgt := 99) hx hb dX12_isOne_94 (by decide) (fun c_19 => ?_) (fun c_19 => ?_)
                  ·
                    have c_19 := (zeq (x := iZ v3_5) (y := iZ 1) rfl rfl ⟨by omega, by omega⟩ ⟨by omega, by omega⟩).mp c_19
                    refine lv_iload hx hb dX12_isOne_99 (lv_at hl 0 rfl) ?_
                    refine lv_istore_n (lv' := [(3, .int (iZ 1)), (7, .int (iZ 1)), (6, .int (iZ (gz Hf ((6 * y) + v4_5)))), (5, .int (iZ (gz Hf ((6 * x) + v4_5)))), (4, .int (iZ v4_5)), (0, .ref hm), (1, .int (iZ x)), (2, .int (iZ y))]) hx hb dX12_isOne_101 rfl hl (by decide) rfl (fun ls hl => ?_)
                    refine lv_iinc (v := iZ (v4_5 + 1)) (lv' := [(4, .int (iZ (v4_5 + 1))), (3, .int (iZ 1)), (7, .int (iZ 1)), (6, .int (iZ (gz Hf ((6 * y) + v4_5)))), (5, .int (iZ (gz Hf ((6 * x) + v4_5)))), (0, .ref hm), (1, .int (iZ x)), (2, .int (iZ y))]) hx hb dX12_isOne_102 hl (k := 4) rfl (iZ_add v4_5 1) (by decide) rfl (fun ls hl => ?_)
                    refine lv_goto (tgt := 5) hx hb dX12_isOne_105 (by decide) ?_
                    exact ih5  1 (v4_5 + 1) _ (by omega) (show (0 ≤ (v4_5 + 1) ∧ (v4_5 + 1) ≤ (gz Af 0) + 1) from ⟨by omega, by omega⟩) (show -1 ≤ 1 ∧ 1 ≤ 2 from (by omega)) (lv_sub hl [0, 1, 5, 6, 7] rfl)
                  ·
                    have c_19 := mt (zeq (x := iZ v3_5) (y := iZ 1) rfl rfl ⟨by omega, by omega⟩ ⟨by omega, by omega⟩).mpr c_19
                    refine lv_iconst (v := iZ 0) hx hb dX12_isOne_97 (by decide) ?_
                    exact EPz hx hb hr hlocks (by omega) (by omega) dX12_isOne_98
            ·
              have c_14 := mt (zle (x := iZ (gz Hf ((6 * y) + v4_5))) (y := iZ (gz Hf ((6 * x) + v4_5))) rfl rfl ⟨by omega, by omega⟩ ⟨by omega, by omega⟩).mpr c_14
              refine lv_iconst (v := iZ 0) hx hb dX12_isOne_68 (by decide) ?_
              refine lv_goto (tgt := 84) hx hb dX12_isOne_69 (by decide) ?_
              refine lv_istore (lv' := [(7, .int (iZ 0)), (6, .int (iZ (gz Hf ((6 * y) + v4_5)))), (5, .int (iZ (gz Hf ((6 * x) + v4_5)))), (4, .int (iZ v4_5)), (3, .int (iZ v3_5)), (0, .ref hm), (1, .int (iZ x)), (2, .int (iZ y))]) hx hb dX12_isOne_84 hl (by decide) rfl (fun ls hl => ?_)
              refine lv_iload_n hx hb dX12_isOne_86 rfl (lv_at hl 4 rfl) ?_
              refine lv_iconst (v := iZ (-1)) hx hb dX12_isOne_87 (by decide) ?_
              refine lv_icmp_eq (tgt := 99) hx hb dX12_isOne_88 (by decide) (fun c_20 => ?_) (fun c_20 => ?_)
              ·
                have c_20 := (zeq (x := iZ v3_5) (y := iZ (-1)) rfl rfl ⟨by omega, by omega⟩ ⟨by omega, by omega⟩).mp c_20
                refine lv_iload hx hb dX12_isOne_99 (lv_at hl 0 rfl) ?_
                refine lv_istore_n (lv' := [(3, .int (iZ 0)), (7, .int (iZ 0)), (6, .int (iZ (gz Hf ((6 * y) + v4_5)))), (5, .int (iZ (gz Hf ((6 * x) + v4_5)))), (4, .int (iZ v4_5)), (0, .ref hm), (1, .int (iZ x)), (2, .int (iZ y))]) hx hb dX12_isOne_101 rfl hl (by decide) rfl (fun ls hl => ?_)
                refine lv_iinc (v := iZ (v4_5 + 1)) (lv' := [(4, .int (iZ (v4_5 + 1))), (3, .int (iZ 0)), (7, .int (iZ 0)), (6, .int (iZ (gz Hf ((6 * y) + v4_5)))), (5, .int (iZ (gz Hf ((6 * x) + v4_5)))), (0, .ref hm), (1, .int (iZ x)), (2, .int (iZ y))]) hx hb dX12_isOne_102 hl (k := 4) rfl (iZ_add v4_5 1) (by decide) rfl (fun ls hl => ?_)
                refine lv_goto (tgt := 5) hx hb dX12_isOne_105 (by decide) ?_
                exact ih5  0 (v4_5 + 1) _ (by omega) (show (0 ≤ (v4_5 + 1) ∧ (v4_5 + 1) ≤ (gz Af 0) + 1) from ⟨by omega, by omega⟩) (show -1 ≤ 0 ∧ 0 ≤ 2 from (by omega)) (lv_sub hl [0, 1, 5, 6, 7] rfl)
              ·
                have c_20 := mt (zeq (x := iZ v3_5) (y := iZ (-1)) rfl rfl ⟨by omega, by omega⟩ ⟨by omega, by omega⟩).mpr c_20
                refine lv_iload_n hx hb dX12_isOne_91 rfl (lv_at hl 4 rfl) ?_
                refine lv_iload hx hb dX12_isOne_92 (lv_at hl 0 rfl) ?_
                refine lv_icmp_eq (tgt := 99) hx hb dX12_isOne_94 (by decide) (fun c_21 => ?_) (fun c_21 => ?_)
                ·
                  have c_21 := (zeq (x := iZ v3_5) (y := iZ 0) rfl rfl ⟨by omega, by omega⟩ ⟨by omega, by omega⟩).mp c_21
                  refine lv_iload hx hb dX12_isOne_99 (lv_at hl 0 rfl) ?_
                  refine lv_istore_n (lv' := [(3, .int (iZ 0)), (7, .int (iZ 0)), (6, .int (iZ (gz Hf ((6 * y) + v4_5)))), (5, .int (iZ (gz Hf ((6 * x) + v4_5)))), (4, .int (iZ v4_5)), (0, .ref hm), (1, .int (iZ x)), (2, .int (iZ y))]) hx hb dX12_isOne_101 rfl hl (by decide) rfl (fun ls hl => ?_)
                  refine lv_iinc (v := iZ (v4_5 + 1)) (lv' := [(4, .int (iZ (v4_5 + 1))), (3, .int (iZ 0)), (7, .int (iZ 0)), (6, .int (iZ (gz Hf ((6 * y) + v4_5)))), (5, .int (iZ (gz Hf ((6 * x) + v4_5)))), (0, .ref hm), (1, .int (iZ x)), (2, .int (iZ y))]) hx hb dX12_isOne_102 hl (k := 4) rfl (iZ_add v4_5 1) (by decide) rfl (fun ls hl => ?_)
                  refine lv_goto (tgt := 5) hx hb dX12_isOne_105 (by decide) ?_
                  exact ih5  0 (v4_5 + 1) _ (by omega) (show (0 ≤ (v4_5 + 1) ∧ (v4_5 + 1) ≤ (gz Af 0) + 1) from ⟨by omega, by omega⟩) (show -1 ≤ 0 ∧ 0 ≤ 2 from (by omega)) (lv_sub hl [0, 1, 5, 6, 7] rfl)
                ·
                  have c_21 := mt (zeq (x := iZ v3_5) (y := iZ 0) rfl rfl ⟨by omega, by omega⟩ ⟨by omega, by omega⟩).mpr c_21
                  refine lv_iconst (v := iZ 0) hx hb dX12_isOne_97 (by decide) ?_
                  exact EPz hx hb hr hlocks (by omega) (by omega) dX12_isOne_98
          ·
            have c_13 := (zeq (x := iZ (gz Hf ((6 * y) + v4_5))) (y := iZ 1000000) rfl rfl ⟨by omega, by omega⟩ ⟨by omega, by omega⟩).mp c_13
            refine lv_goto (tgt := 102) hx hb dX12_isOne_58 (by decide) ?_
            refine lv_iinc (v := iZ (v4_5 + 1)) (lv' := [(4, .int (iZ (v4_5 + 1))), (6, .int (iZ (gz Hf ((6 * y) + v4_5)))), (5, .int (iZ (gz Hf ((6 * x) + v4_5)))), (3, .int (iZ v3_5)), (0, .ref hm), (1, .int (iZ x)), (2, .int (iZ y))]) hx hb dX12_isOne_102 hl (k := 2) rfl (iZ_add v4_5 1) (by decide) rfl (fun ls hl => ?_)
            refine lv_goto (tgt := 5) hx hb dX12_isOne_105 (by decide) ?_
            exact ih5  v3_5 (v4_5 + 1) _ (by omega) (show (0 ≤ (v4_5 + 1) ∧ (v4_5 + 1) ≤ (gz Af 0) + 1) from ⟨by omega, by omega⟩) (show -1 ≤ v3_5 ∧ v3_5 ≤ 2 from (by omega)) (lv_sub hl [0, 3, 4, 5, 6] rfl)
  exact HL5 10 (-1) 0 _ (by omega) (show (0 ≤ 0 ∧ 0 ≤ (gz Af 0) + 1) from ⟨by omega, by omega⟩) (show -1 ≤ (-1) ∧ (-1) ≤ 2 from (by omega)) (lv_sub hl [0, 1, 2, 3, 4] rfl)
set_option maxHeartbeats 4000000 in
set_option maxRecDepth 100000 in
theorem m_reignOf (l : Launch) (D : va_G) (k : Nat → ClassId) (fs : List Value) (hm : Nat) (Ma : Nat) (Mh : Nat) (Af : Nat → Int32) (Hf : Nat → Int32) (x : Int) (y : Int) (f0 : fs[0]? = some (.ref Ma)) (f27 : fs[27]? = some (.ref Mh)) (hM : M0 Af) (h9x : -2147483648 ≤ x ∧ x < 2147483648) (h9y : 0 ≤ y ∧ y < 6) (rgH : rgI Hf 0 1000000 120) : RP l yX12_reignOf cX12_reignOf 5 (some .int) 3 D k [.ref hm, .int (iZ x), .int (iZ y)] [(hm, .inr (12, fs)), (Ma, .inl (k 1, 5340, .inl Af)), (Mh, .inl (k 1, 120, .inl Hf))] (fun z => 0 ≤ z ∧ z ≤ 501) := by
  refine MRP (by decide) (Nat.le_of_ble_eq_true rfl) (fun p e s m below meth c ls hx hb hml hr hlocks hts hown hKK hP hl => ?_)
  have hK := hKK.1
  have hl : lv_has ls 5 [(0, .ref hm), (1, .int (iZ x)), (2, .int (iZ y))] := hl
  obtain ⟨m0, m1, m3, m4, m5, mF, mO, mS⟩ := id hM
  refine lv_iconst (v := iZ 0) hx hb dX12_reignOf_0 (by decide) ?_
  refine lv_istore_n (lv' := [(3, .int (iZ 0)), (0, .ref hm), (1, .int (iZ x)), (2, .int (iZ y))]) hx hb dX12_reignOf_1 rfl hl (by decide) rfl (fun ls hl => ?_)
  refine lv_iconst (v := iZ 0) hx hb dX12_reignOf_2 (by decide) ?_
  refine lv_istore (lv' := [(4, .int (iZ 0)), (3, .int (iZ 0)), (0, .ref hm), (1, .int (iZ x)), (2, .int (iZ y))]) hx hb dX12_reignOf_3 hl (by decide) rfl (fun ls hl => ?_)
  have HL5 : ∀ (fu : Nat) (v3_5 : Int) (v4_5 : Int) (ls : Array Slot), ((500) + 2 - v4_5) < (fu : Int) → ((0 ≤ v4_5 ∧ v4_5 ≤ (500) + 1)) → (0 ≤ v3_5 ∧ v3_5 ≤ v4_5) → lv_has ls 5 [(4, .int (iZ v4_5)), (3, .int (iZ v3_5)), (0, .ref hm), (1, .int (iZ x)), (2, .int (iZ y))] → W p l e (rj 3 0 0) s m [.ref hm, .int (iZ x), .int (iZ y)].toArray below meth c s.heap [] 0 0 (MQ below (QcP (fun z => 0 ≤ z ∧ z ≤ 501)) [.ref hm, .int (iZ x), .int (iZ y)].toArray s 0 0 (fun _ => False)) (F0 m 5 ls []) := by
    intro fu
    induction fu with
    | zero => intro v3_5 v4_5 ls hμ5 hi5 hf0_5 hl; exact absurd hμ5 (by omega)
    | succ fu ih5 =>
      intro v3_5 v4_5 ls hμ5 hi5 hf0_5 hl
      refine lv_iload hx hb dX12_reignOf_5 (lv_at hl 0 rfl) ?_
      refine lv_sipush (v := iZ 500) hx hb dX12_reignOf_7 (by decide) ?_
      refine lv_icmp_gt (tgt := 38) hx hb dX12_reignOf_10 (by decide) (fun c_1 => ?_) (fun c_1 => ?_)
      ·
        have c_1 := (zlt (x := iZ 500) (y := iZ v4_5) rfl rfl ⟨by omega, by omega⟩ ⟨by omega, by omega⟩).mp c_1
        refine lv_iload_n hx hb dX12_reignOf_38 rfl (lv_at hl 1 rfl) ?_
        exact EPi hx hb hr hlocks (by omega) dX12_reignOf_39
      ·
        have c_1 := mt (zlt (x := iZ 500) (y := iZ v4_5) rfl rfl ⟨by omega, by omega⟩ ⟨by omega, by omega⟩).mpr c_1
        refine lv_iload_n hx hb dX12_reignOf_13 rfl (lv_at hl 1 rfl) ?_
        refine lv_aload_n hx hb dX12_reignOf_14 rfl (lv_at hl 2 rfl) ?_
        refine lv_iload_n hx hb dX12_reignOf_15 rfl (lv_at hl 4 rfl) ?_
        refine lv_iload hx hb dX12_reignOf_16 (lv_at hl 0 rfl) ?_
        refine CPV (As := [.int (iZ y), .int (iZ v4_5)]) (rest := [.int (iZ v3_5)]) hx hb hml hown hts hKK hP (m_ruling l D k fs hm Ma Mh Af Hf y v4_5 f0 f27 hM ⟨by omega, by omega⟩ ⟨by omega, by omega⟩ rgH) ci_X12_ruling qm_X12_333 ⟨Nat.le_of_ble_eq_true rfl, Nat.le_of_ble_eq_true rfl⟩ ⟨Nat.le_of_ble_eq_true rfl, Nat.le_of_ble_eq_true rfl⟩ 0 rfl rfl rfl hl.1 rfl (Nat.le_of_ble_eq_true rfl) dX12_reignOf_18 (fun z_2 hz_2 => ?_)
        refine lv_iload_n hx hb dX12_reignOf_21 rfl (lv_at hl 3 rfl) ?_
        refine lv_icmp_ne (tgt := 29) hx hb dX12_reignOf_22 (by decide) (fun c_3 => ?_) (fun c_3 => ?_)
        ·
          have c_3 := mt (zeq (x := iZ z_2) (y := iZ x) rfl rfl ⟨by omega, by omega⟩ ⟨by omega, by omega⟩).mpr c_3
          refine lv_iconst (v := iZ 0) hx hb dX12_reignOf_29 (by decide) ?_
          refine lv_iadd hx hb dX12_reignOf_30 ?_
          refine lv_topi (fun x_4 ex_4 => ?_)
          obtain rfl : x_4 = iZ (v3_5 + 0) := ex_4.trans (iZ_add v3_5 0)
          refine lv_istore_n (lv' := [(3, .int (iZ (v3_5 + 0))), (4, .int (iZ v4_5)), (0, .ref hm), (1, .int (iZ x)), (2, .int (iZ y))]) hx hb dX12_reignOf_31 rfl hl (by decide) rfl (fun ls hl => ?_)
          refine lv_iinc (v := iZ (v4_5 + 1)) (lv' := [(4, .int (iZ (v4_5 + 1))), (3, .int (iZ (v3_5 + 0))), (0, .ref hm), (1, .int (iZ x)), (2, .int (iZ y))]) hx hb dX12_reignOf_32 hl (k := 1) rfl (iZ_add v4_5 1) (by decide) rfl (fun ls hl => ?_)
          refine lv_goto (tgt := 5) hx hb dX12_reignOf_35 (by decide) ?_
          exact ih5  (v3_5 + 0) (v4_5 + 1) _ (by omega) (show (0 ≤ (v4_5 + 1) ∧ (v4_5 + 1) ≤ (500) + 1) from ⟨by omega, by omega⟩) (show 0 ≤ (v3_5 + 0) ∧ (v3_5 + 0) ≤ (v4_5 + 1) from (by omega)) (lv_sub hl [0, 1, 2, 3, 4] rfl)
        ·
          have c_3 := (zeq (x := iZ z_2) (y := iZ x) rfl rfl ⟨by omega, by omega⟩ ⟨by omega, by omega⟩).mp c_3
          refine lv_iconst (v := iZ 1) hx hb dX12_reignOf_25 (by decide) ?_
          refine lv_goto (tgt := 30) hx hb dX12_reignOf_26 (by decide) ?_
          refine lv_iadd hx hb dX12_reignOf_30 ?_
          refine lv_topi (fun x_5 ex_5 => ?_)
          obtain rfl : x_5 = iZ (v3_5 + 1) := ex_5.trans (iZ_add v3_5 1)
          refine lv_istore_n (lv' := [(3, .int (iZ (v3_5 + 1))), (4, .int (iZ v4_5)), (0, .ref hm), (1, .int (iZ x)), (2, .int (iZ y))]) hx hb dX12_reignOf_31 rfl hl (by decide) rfl (fun ls hl => ?_)
          refine lv_iinc (v := iZ (v4_5 + 1)) (lv' := [(4, .int (iZ (v4_5 + 1))), (3, .int (iZ (v3_5 + 1))), (0, .ref hm), (1, .int (iZ x)), (2, .int (iZ y))]) hx hb dX12_reignOf_32 hl (k := 1) rfl (iZ_add v4_5 1) (by decide) rfl (fun ls hl => ?_)
          refine lv_goto (tgt := 5) hx hb dX12_reignOf_35 (by decide) ?_
          exact ih5  (v3_5 + 1) (v4_5 + 1) _ (by omega) (show (0 ≤ (v4_5 + 1) ∧ (v4_5 + 1) ≤ (500) + 1) from ⟨by omega, by omega⟩) (show 0 ≤ (v3_5 + 1) ∧ (v3_5 + 1) ≤ (v4_5 + 1) from (by omega)) (lv_sub hl [0, 1, 2, 3, 4] rfl)
  exact HL5 504 0 0 _ (by omega) (show (0 ≤ 0 ∧ 0 ≤ (500) + 1) from ⟨by omega, by omega⟩) (show 0 ≤ 0 ∧ 0 ≤ 0 from (by omega)) (lv_sub hl [0, 1, 2, 3, 4] rfl)
set_option maxHeartbeats 4000000 in
set_option maxRecDepth 100000 in
theorem m_isSetOf (l : Launch) (D : va_G) (k : Nat → ClassId) (fs : List Value) (hm : Nat) (Ma : Nat) (Af : Nat → Int32) (x : Int) (f0 : fs[0]? = some (.ref Ma)) (hM : M0 Af) (h9x : -2147483648 ≤ x ∧ x < 2147483648) : RP l yX12_isSetOf cX12_isSetOf 2 (some .boolean) 0 D k [.ref hm, .int (iZ x)] [(hm, .inr (12, fs)), (Ma, .inl (k 1, 5340, .inl Af))] (fun z => (z = 1 ∧ True) ∨ (z = 0 ∧ True)) := by
  refine MRP (by decide) (Nat.le_of_ble_eq_true rfl) (fun p e s m below meth c ls hx hb hml hr hlocks hts hown hKK hP hl => ?_)
  have hK := hKK.1
  have hl : lv_has ls 2 [(0, .ref hm), (1, .int (iZ x))] := hl
  obtain ⟨m0, m1, m3, m4, m5, mF, mO, mS⟩ := id hM
  refine lv_iload_n hx hb dX12_isSetOf_0 rfl (lv_at hl 1 rfl) ?_
  refine lv_if_le (tgt := 20) hx hb dX12_isSetOf_1 (by decide) (fun c_1 => ?_) (fun c_1 => ?_)
  ·
    have c_1 := (zle (x := iZ x) (y := iZ 0) rfl rfl ⟨by omega, by omega⟩ ⟨by omega, by omega⟩).mp c_1
    refine lv_iconst (v := iZ 0) hx hb dX12_isSetOf_20 (by decide) ?_
    exact EPz hx hb hr hlocks (by omega) (Or.inr ⟨rfl, trivial⟩) dX12_isSetOf_21
  ·
    have c_1 := mt (zle (x := iZ x) (y := iZ 0) rfl rfl ⟨by omega, by omega⟩ ⟨by omega, by omega⟩).mpr c_1
    refine lv_iload_n hx hb dX12_isSetOf_4 rfl (lv_at hl 1 rfl) ?_
    refine lv_iconst (v := iZ 1) hx hb dX12_isSetOf_5 (by decide) ?_
    refine lv_aload_n hx hb dX12_isSetOf_6 rfl (lv_at hl 0 rfl) ?_
    refine va_get (D := D) (ci := 12) (v := .ref Ma) (C := RX12) (T := TX12) (N := 36) hx hb hts iX12 hown hK hP 0 rfl rfl 0 (by decide) (hts _ qf_X12_7) (fun _ h => h) f0 dX12_isSetOf_7 ?_
    refine lv_iconst (v := iZ 0) hx hb dX12_isSetOf_10 (by decide) ?_
    refine va_iald hx hb hK hP 1 1 rfl rfl (zin (e := 0) (n := 5340) ⟨by omega, by omega⟩ (by decide)) dX12_isSetOf_11 ?_
    refine lv_topi (fun x_2 ex_2 => ?_)
    obtain rfl : x_2 = iZ (gz Af 0) := ex_2.trans (gz_eq ⟨by omega, by omega⟩)
    have h_3 := gz_rg Af 0
    refine lv_ishl hx hb dX12_isSetOf_12 ?_
    refine lv_topi (fun x_5 ex_5 => ?_)
    obtain ⟨z_4, hz_4, hz_4a, hz_4b⟩ := i32_z x_5
    subst hz_4
    refine lv_icmp_ge (tgt := 20) hx hb dX12_isSetOf_13 (by decide) (fun c_6 => ?_) (fun c_6 => ?_)
    ·
      have c_6 := (zle (x := iZ z_4) (y := iZ x) rfl rfl ⟨by omega, by omega⟩ ⟨by omega, by omega⟩).mp c_6
      refine lv_iconst (v := iZ 0) hx hb dX12_isSetOf_20 (by decide) ?_
      exact EPz hx hb hr hlocks (by omega) (Or.inr ⟨rfl, trivial⟩) dX12_isSetOf_21
    ·
      have c_6 := mt (zle (x := iZ z_4) (y := iZ x) rfl rfl ⟨by omega, by omega⟩ ⟨by omega, by omega⟩).mpr c_6
      refine lv_iconst (v := iZ 1) hx hb dX12_isSetOf_16 (by decide) ?_
      refine lv_goto (tgt := 21) hx hb dX12_isSetOf_17 (by decide) ?_
      exact EPz hx hb hr hlocks (by omega) (Or.inl ⟨rfl, trivial⟩) dX12_isSetOf_21
