set_option maxHeartbeats 4000000 in
set_option maxRecDepth 100000 in
theorem q_heard (l : Launch) (D : va_G) (k : Nat → ClassId) (hm : Nat) (Ma : Nat) (Mn : Nat) (Ms : Nat) (My : Nat) (Mt : Nat) (Mp : Nat) (Mx : Nat) (Mo : Nat) (Mk : Nat) (Ml : Nat) (Mb : Nat) (Mh : Nat) (Mc : Nat) (Mz : Nat) (Mr : Nat) (Mq : Nat) (Mst : Int) (Mtd : Int) (Msz : Int) (Mtk : Int) (Mfr : Int) (Men : Int) (Mva : Int) (Mfk : Int) (Mfp : Int) (Mfs : Int) (Mse : Int) (Mlt : Int) (Mdp : Int) (Mct : Int) (Mdr : Int) (Mrs : Int) (Mit : Int) (Mmk : Int) (Mtp : Int64) (Mbt : Int64) (Af : Nat → Int32) (Kf : Nat → Int32) (Lf : Nat → Int32) (Bf : Nat → Int32) (Hf : Nat → Int32) (x1 : Int) (x2 : Int) (hM : M0 Af) (rgH : rgI Hf 0 1000000 120) (h9x1 : -2147483648 ≤ x1 ∧ x1 < 2147483648) (h9x2 : -2147483648 ≤ x2 ∧ x2 < 2147483648) : WD (σ := ((Nat → Int) × (Nat → Int64) × (Nat → Nat → Int32) × (Nat → Nat → Int64))) l yX12_heard cX12_heard 3 (some .int) 7 0 0 D k [.ref hm, .int (iZ x1), .int (iZ x2)] [(hm, .inr (12, [.ref Ma, .ref Mn, .int (iZ Mst), .long Mtp, .long Mbt, .ref Ms, .ref My, .ref Mt, .ref Mp, .ref Mx, .int (iZ Mtd), .int (iZ Msz), .int (iZ Mtk), .int (iZ Mfr), .int (iZ Men), .int (iZ Mva), .int (iZ Mfk), .int (iZ Mfp), .int (iZ Mfs), .int (iZ Mse), .int (iZ Mlt), .ref Mo, .int (iZ Mdp), .int (iZ Mct), .ref Mk, .ref Ml, .ref Mb, .ref Mh, .ref Mc, .int (iZ Mdr), .int (iZ Mrs), .ref Mz, .ref Mr, .ref Mq, .int (iZ Mit), .int (iZ Mmk)])), (Ma, .inl (k 1, 5340, .inl Af)), (Mk, .inl (k 1, 6, .inl Kf)), (Ml, .inl (k 1, 6, .inl Lf)), (Mb, .inl (k 1, 6, .inl Bf)), (Mh, .inl (k 1, 120, .inl Hf))] (fun u => some (.int (iZ (u.1 0)))) (fun u => rgI (u.2.2.1 3) 0 1000000 120) (fun u => [(hm, .inr (12, [.ref Ma, .ref Mn, .int (iZ (u.1 1)), .long Mtp, .long Mbt, .ref Ms, .ref My, .ref Mt, .ref Mp, .ref Mx, .int (iZ Mtd), .int (iZ Msz), .int (iZ Mtk), .int (iZ Mfr), .int (iZ Men), .int (iZ Mva), .int (iZ Mfk), .int (iZ Mfp), .int (iZ Mfs), .int (iZ Mse), .int (iZ Mlt), .ref Mo, .int (iZ Mdp), .int (iZ Mct), .ref Mk, .ref Ml, .ref Mb, .ref Mh, .ref Mc, .int (iZ Mdr), .int (iZ Mrs), .ref Mz, .ref Mr, .ref Mq, .int (iZ Mit), .int (iZ Mmk)])), (Ma, .inl (k 1, 5340, .inl Af)), (Mk, .inl (k 1, 6, .inl (u.2.2.1 0))), (Ml, .inl (k 1, 6, .inl (u.2.2.1 1))), (Mb, .inl (k 1, 6, .inl (u.2.2.1 2))), (Mh, .inl (k 1, 120, .inl (u.2.2.1 3)))]) := by
  refine MW (by decide) (Nat.le_of_ble_eq_true rfl) (fun p e s m below meth c ls A hx hb hml hr hlocks hin hts hown hKK hP hD hS hA hl => ?_)
  have hK := hKK.1
  have hl : lv_has ls 3 [(0, .ref hm), (1, .int (iZ x1)), (2, .int (iZ x2))] := hl
  obtain ⟨m0, m1, m3, m4, m5, mF, mO, mS⟩ := id hM
  refine lv_aload_n hx hb dX12_heard_0 rfl (lv_at hl 0 rfl) ?_
  refine lv_iload_n hx hb dX12_heard_1 rfl (lv_at hl 1 rfl) ?_
  refine CPV (As := [.int (iZ x1)]) (rest := []) hx hb hml hown hts hKK (hP.sub (ws' := [(hm, .inr (12, [.ref Ma, .ref Mn, .int (iZ Mst), .long Mtp, .long Mbt, .ref Ms, .ref My, .ref Mt, .ref Mp, .ref Mx, .int (iZ Mtd), .int (iZ Msz), .int (iZ Mtk), .int (iZ Mfr), .int (iZ Men), .int (iZ Mva), .int (iZ Mfk), .int (iZ Mfp), .int (iZ Mfs), .int (iZ Mse), .int (iZ Mlt), .ref Mo, .int (iZ Mdp), .int (iZ Mct), .ref Mk, .ref Ml, .ref Mb, .ref Mh, .ref Mc, .int (iZ Mdr), .int (iZ Mrs), .ref Mz, .ref Mr, .ref Mq, .int (iZ Mit), .int (iZ Mmk)])), (Ma, .inl (k 1, 5340, .inl Af))]) [0, 1] rfl) (m_isOrder l D k ([.ref Ma, .ref Mn, .int (iZ Mst), .long Mtp, .long Mbt, .ref Ms, .ref My, .ref Mt, .ref Mp, .ref Mx, .int (iZ Mtd), .int (iZ Msz), .int (iZ Mtk), .int (iZ Mfr), .int (iZ Men), .int (iZ Mva), .int (iZ Mfk), .int (iZ Mfp), .int (iZ Mfs), .int (iZ Mse), .int (iZ Mlt), .ref Mo, .int (iZ Mdp), .int (iZ Mct), .ref Mk, .ref Ml, .ref Mb, .ref Mh, .ref Mc, .int (iZ Mdr), .int (iZ Mrs), .ref Mz, .ref Mr, .ref Mq, .int (iZ Mit), .int (iZ Mmk)]) hm Ma Af x1 rfl hM ⟨by omega, by omega⟩) ci_X12_isOrder qm_X12_324 ⟨Nat.le_of_ble_eq_true rfl, Nat.le_of_ble_eq_true rfl⟩ ⟨Nat.le_of_ble_eq_true rfl, Nat.le_of_ble_eq_true rfl⟩ 0 rfl rfl rfl hl.1 rfl (Nat.le_of_ble_eq_true rfl) dX12_heard_2 (fun z_1 hz_1 => ?_)
  rcases hz_1 with ⟨qz_1, hz_1⟩ | ⟨qz_1, hz_1⟩
  ·
    subst qz_1
    refine lv_if_eq (tgt := 16) hx hb dX12_heard_5 (by decide) (fun c => absurd c (by decide)) (fun _ => ?_)
    refine lv_aload_n hx hb dX12_heard_8 rfl (lv_at hl 0 rfl) ?_
    refine lv_iload_n hx hb dX12_heard_9 rfl (lv_at hl 2 rfl) ?_
    refine CPV (As := [.int (iZ x2)]) (rest := []) hx hb hml hown hts hKK (hP.sub (ws' := [(hm, .inr (12, [.ref Ma, .ref Mn, .int (iZ Mst), .long Mtp, .long Mbt, .ref Ms, .ref My, .ref Mt, .ref Mp, .ref Mx, .int (iZ Mtd), .int (iZ Msz), .int (iZ Mtk), .int (iZ Mfr), .int (iZ Men), .int (iZ Mva), .int (iZ Mfk), .int (iZ Mfp), .int (iZ Mfs), .int (iZ Mse), .int (iZ Mlt), .ref Mo, .int (iZ Mdp), .int (iZ Mct), .ref Mk, .ref Ml, .ref Mb, .ref Mh, .ref Mc, .int (iZ Mdr), .int (iZ Mrs), .ref Mz, .ref Mr, .ref Mq, .int (iZ Mit), .int (iZ Mmk)])), (Ma, .inl (k 1, 5340, .inl Af))]) [0, 1] rfl) (m_isRock l D k ([.ref Ma, .ref Mn, .int (iZ Mst), .long Mtp, .long Mbt, .ref Ms, .ref My, .ref Mt, .ref Mp, .ref Mx, .int (iZ Mtd), .int (iZ Msz), .int (iZ Mtk), .int (iZ Mfr), .int (iZ Men), .int (iZ Mva), .int (iZ Mfk), .int (iZ Mfp), .int (iZ Mfs), .int (iZ Mse), .int (iZ Mlt), .ref Mo, .int (iZ Mdp), .int (iZ Mct), .ref Mk, .ref Ml, .ref Mb, .ref Mh, .ref Mc, .int (iZ Mdr), .int (iZ Mrs), .ref Mz, .ref Mr, .ref Mq, .int (iZ Mit), .int (iZ Mmk)]) hm Ma Af x2 rfl hM ⟨by omega, by omega⟩) ci_X12_isRock qm_X12_243 ⟨Nat.le_of_ble_eq_true rfl, Nat.le_of_ble_eq_true rfl⟩ ⟨Nat.le_of_ble_eq_true rfl, Nat.le_of_ble_eq_true rfl⟩ 0 rfl rfl rfl hl.1 rfl (Nat.le_of_ble_eq_true rfl) dX12_heard_10 (fun z_3 hz_3 => ?_)
    rcases hz_3 with ⟨qz_3, hz_3⟩ | ⟨qz_3, hz_3⟩
    ·
      subst qz_3
      refine lv_if_ne (tgt := 22) hx hb dX12_heard_13 (by decide) (fun _ => ?_) (fun c => absurd c (by decide))
      refine lv_aload_n hx hb dX12_heard_22 rfl (lv_at hl 0 rfl) ?_
      refine lv_iload_n hx hb dX12_heard_23 rfl (lv_at hl 1 rfl) ?_
      refine CWV (As := [.int (iZ x1)]) (rest := []) (wc := [(hm, .inr (12, [.ref Ma, .ref Mn, .int (iZ Mst), .long Mtp, .long Mbt, .ref Ms, .ref My, .ref Mt, .ref Mp, .ref Mx, .int (iZ Mtd), .int (iZ Msz), .int (iZ Mtk), .int (iZ Mfr), .int (iZ Men), .int (iZ Mva), .int (iZ Mfk), .int (iZ Mfp), .int (iZ Mfs), .int (iZ Mse), .int (iZ Mlt), .ref Mo, .int (iZ Mdp), .int (iZ Mct), .ref Mk, .ref Ml, .ref Mb, .ref Mh, .ref Mc, .int (iZ Mdr), .int (iZ Mrs), .ref Mz, .ref Mr, .ref Mq, .int (iZ Mit), .int (iZ Mmk)])), (Ma, .inl (k 1, 5340, .inl Af)), (Mk, .inl (k 1, 6, .inl Kf)), (Ml, .inl (k 1, 6, .inl Lf)), (Mb, .inl (k 1, 6, .inl Bf)), (Mh, .inl (k 1, 120, .inl Hf))]) (wr := []) hx hb hml hown hts hKK hP hD hS hA (m_laysOrder l D k hm Ma Mn Ms My Mt Mp Mx Mo Mk Ml Mb Mh Mc Mz Mr Mq Mst Mtd Msz Mtk Mfr Men Mva Mfk Mfp Mfs Mse Mlt Mdp Mct Mdr Mrs Mit Mmk Mtp Mbt Af Kf Lf Bf Hf x1 hM ⟨by omega, by omega⟩ rgH) ci_X12_laysOrder qm_X12_318 ⟨Nat.le_of_ble_eq_true rfl, Nat.le_of_ble_eq_true rfl⟩ ⟨Nat.le_of_ble_eq_true rfl, Nat.le_of_ble_eq_true rfl⟩ [0, 1, 2, 3, 4, 5] [] rfl rfl rfl rfl rfl (by decide) 0 rfl rfl rfl hl.1 rfl (Nat.le_of_ble_eq_true rfl) dX12_heard_24 (fun u_5 H locs hφ hP hD hS => ?_)
      obtain ⟨I_6, L_7, F_8, G_9⟩ := u_5
      obtain ⟨p_11, p_12, p_13⟩ : (KR (F_8 0) 6) ∧ (rgI (F_8 1) (-1) 5 6) ∧ (rgI (F_8 3) 0 1000000 120) := hφ
      refine W.eq (g2 := F0 m 27 ls []) rfl ?_
      refine lv_aload_n hx hb dX12_heard_27 rfl (lv_at hl 0 rfl) ?_
      refine lv_aload_n hx hb dX12_heard_28 rfl (lv_at hl 0 rfl) ?_
      refine va_get (D := D) (ci := 12) (v := .ref Mk) (C := RX12) (T := TX12) (N := 36) hx hb hts iX12 hown hK hP 0 rfl rfl 24 (by decide) (hts _ qf_X12_47) (fun _ h => h) rfl dX12_heard_29 ?_
      refine lv_iload_n hx hb dX12_heard_32 rfl (lv_at hl 2 rfl) ?_
      refine va_iald hx hb hK hP 2 1 rfl rfl (zin (e := x2) (n := 6) ⟨by omega, by omega⟩ (by decide)) dX12_heard_33 ?_
      refine lv_topi (fun x_14 ex_14 => ?_)
      obtain rfl : x_14 = iZ (gz (F_8 0) x2) := ex_14.trans (gz_eq ⟨by omega, by omega⟩)
      have h_15 := p_11 x2 (by omega) (by omega)
      refine CWV (As := [.int (iZ (gz (F_8 0) x2))]) (rest := []) (wc := [(hm, .inr (12, [.ref Ma, .ref Mn, .int (iZ Mst), .long Mtp, .long Mbt, .ref Ms, .ref My, .ref Mt, .ref Mp, .ref Mx, .int (iZ Mtd), .int (iZ Msz), .int (iZ Mtk), .int (iZ Mfr), .int (iZ Men), .int (iZ Mva), .int (iZ Mfk), .int (iZ Mfp), .int (iZ Mfs), .int (iZ Mse), .int (iZ Mlt), .ref Mo, .int (iZ Mdp), .int (iZ Mct), .ref Mk, .ref Ml, .ref Mb, .ref Mh, .ref Mc, .int (iZ Mdr), .int (iZ Mrs), .ref Mz, .ref Mr, .ref Mq, .int (iZ Mit), .int (iZ Mmk)]))]) (wr := [(Ma, .inl (k 1, 5340, .inl Af)), (Mk, .inl (k 1, 6, .inl (F_8 0))), (Ml, .inl (k 1, 6, .inl (F_8 1))), (Mb, .inl (k 1, 6, .inl (F_8 2))), (Mh, .inl (k 1, 120, .inl (F_8 3)))]) hx hb hml hown hts hKK hP hD hS hA (m_orNever l D k hm Ma Mn Ms My Mt Mp Mx Mo Mk Ml Mb Mh Mc Mz Mr Mq Mst Mtd Msz Mtk Mfr Men Mva Mfk Mfp Mfs Mse Mlt Mdp Mct Mdr Mrs Mit Mmk Mtp Mbt (gz (F_8 0) x2) ⟨by omega, by omega⟩) ci_X12_orNever qm_X12_284 ⟨Nat.le_of_ble_eq_true rfl, Nat.le_of_ble_eq_true rfl⟩ ⟨Nat.le_of_ble_eq_true rfl, Nat.le_of_ble_eq_true rfl⟩ [0] [1, 2, 3, 4, 5] rfl rfl rfl rfl rfl (by decide) 0 rfl rfl rfl hl.1 rfl (Nat.le_of_ble_eq_true rfl) dX12_heard_34 (fun u_16 H locs hφ hP hD hS => ?_)
      obtain ⟨I_17, L_18, F_19, G_20⟩ := u_16
      have p_22 : (((gz (F_8 0) x2) : Int) ≥ 1000000 ∧ (I_17 0) = -1 ∧ (I_17 1) = 6) ∨ (((gz (F_8 0) x2) : Int) < 1000000 ∧ (I_17 0) = (gz (F_8 0) x2) ∧ (I_17 1) = 0) := hφ
      refine W.eq (g2 := F0 m 37 ls [.int (iZ (I_17 0))]) rfl ?_
      exact EWi hx hb hr hlocks hS (fun i => [(I_17 0), (I_17 1)].getD i 0, fun i => [0].getD i 0, fun i => [(F_8 0), (F_8 1), (F_8 2), (F_8 3)].getD i (fun _ => 0), fun i => [].getD i (fun _ => 0)) rfl (show rgI (F_8 3) 0 1000000 120 from p_13) (hP.sub [5, 0, 1, 2, 3, 4] rfl) (hD.sub [5, 0, 1, 2, 3, 4] rfl rfl) dX12_heard_37
    ·
      subst qz_3
      refine lv_if_ne (tgt := 22) hx hb dX12_heard_13 (by decide) (fun c => absurd (by decide) c) (fun _ => ?_)
      refine lv_aload_n hx hb dX12_heard_16 rfl (lv_at hl 0 rfl) ?_
      refine lv_iconst (v := iZ 1) hx hb dX12_heard_17 (by decide) ?_
      refine CWV (As := [.int (iZ 1)]) (rest := []) (wc := [(hm, .inr (12, [.ref Ma, .ref Mn, .int (iZ Mst), .long Mtp, .long Mbt, .ref Ms, .ref My, .ref Mt, .ref Mp, .ref Mx, .int (iZ Mtd), .int (iZ Msz), .int (iZ Mtk), .int (iZ Mfr), .int (iZ Men), .int (iZ Mva), .int (iZ Mfk), .int (iZ Mfp), .int (iZ Mfs), .int (iZ Mse), .int (iZ Mlt), .ref Mo, .int (iZ Mdp), .int (iZ Mct), .ref Mk, .ref Ml, .ref Mb, .ref Mh, .ref Mc, .int (iZ Mdr), .int (iZ Mrs), .ref Mz, .ref Mr, .ref Mq, .int (iZ Mit), .int (iZ Mmk)]))]) (wr := [(Ma, .inl (k 1, 5340, .inl Af)), (Mk, .inl (k 1, 6, .inl Kf)), (Ml, .inl (k 1, 6, .inl Lf)), (Mb, .inl (k 1, 6, .inl Bf)), (Mh, .inl (k 1, 120, .inl Hf))]) hx hb hml hown hts hKK hP hD hS hA (m_refuse l D k hm Ma Mn Ms My Mt Mp Mx Mo Mk Ml Mb Mh Mc Mz Mr Mq Mst Mtd Msz Mtk Mfr Men Mva Mfk Mfp Mfs Mse Mlt Mdp Mct Mdr Mrs Mit Mmk Mtp Mbt 1) ci_X12_refuse qm_X12_81 ⟨Nat.le_of_ble_eq_true rfl, Nat.le_of_ble_eq_true rfl⟩ ⟨Nat.le_of_ble_eq_true rfl, Nat.le_of_ble_eq_true rfl⟩ [0] [1, 2, 3, 4, 5] rfl rfl rfl rfl rfl (by decide) 0 rfl rfl rfl hl.1 rfl (Nat.le_of_ble_eq_true rfl) dX12_heard_18 (fun u_24 H locs hφ hP hD hS => ?_)
      obtain ⟨I_25, L_26, F_27, G_28⟩ := u_24
      refine W.eq (g2 := F0 m 21 ls [.int (iZ (-1))]) rfl ?_
      exact EWi hx hb hr hlocks hS (fun i => [(-1), 1].getD i 0, fun i => [0].getD i 0, fun i => [Kf, Lf, Bf, Hf].getD i (fun _ => 0), fun i => [].getD i (fun _ => 0)) rfl (show rgI Hf 0 1000000 120 from rgH) (hP.sub [5, 0, 1, 2, 3, 4] rfl) (hD.sub [5, 0, 1, 2, 3, 4] rfl rfl) dX12_heard_21
  ·
    subst qz_1
    refine lv_if_eq (tgt := 16) hx hb dX12_heard_5 (by decide) (fun _ => ?_) (fun c => absurd (by decide) c)
    refine lv_aload_n hx hb dX12_heard_16 rfl (lv_at hl 0 rfl) ?_
    refine lv_iconst (v := iZ 1) hx hb dX12_heard_17 (by decide) ?_
    refine CWV (As := [.int (iZ 1)]) (rest := []) (wc := [(hm, .inr (12, [.ref Ma, .ref Mn, .int (iZ Mst), .long Mtp, .long Mbt, .ref Ms, .ref My, .ref Mt, .ref Mp, .ref Mx, .int (iZ Mtd), .int (iZ Msz), .int (iZ Mtk), .int (iZ Mfr), .int (iZ Men), .int (iZ Mva), .int (iZ Mfk), .int (iZ Mfp), .int (iZ Mfs), .int (iZ Mse), .int (iZ Mlt), .ref Mo, .int (iZ Mdp), .int (iZ Mct), .ref Mk, .ref Ml, .ref Mb, .ref Mh, .ref Mc, .int (iZ Mdr), .int (iZ Mrs), .ref Mz, .ref Mr, .ref Mq, .int (iZ Mit), .int (iZ Mmk)]))]) (wr := [(Ma, .inl (k 1, 5340, .inl Af)), (Mk, .inl (k 1, 6, .inl Kf)), (Ml, .inl (k 1, 6, .inl Lf)), (Mb, .inl (k 1, 6, .inl Bf)), (Mh, .inl (k 1, 120, .inl Hf))]) hx hb hml hown hts hKK hP hD hS hA (m_refuse l D k hm Ma Mn Ms My Mt Mp Mx Mo Mk Ml Mb Mh Mc Mz Mr Mq Mst Mtd Msz Mtk Mfr Men Mva Mfk Mfp Mfs Mse Mlt Mdp Mct Mdr Mrs Mit Mmk Mtp Mbt 1) ci_X12_refuse qm_X12_81 ⟨Nat.le_of_ble_eq_true rfl, Nat.le_of_ble_eq_true rfl⟩ ⟨Nat.le_of_ble_eq_true rfl, Nat.le_of_ble_eq_true rfl⟩ [0] [1, 2, 3, 4, 5] rfl rfl rfl rfl rfl (by decide) 0 rfl rfl rfl hl.1 rfl (Nat.le_of_ble_eq_true rfl) dX12_heard_18 (fun u_31 H locs hφ hP hD hS => ?_)
    obtain ⟨I_32, L_33, F_34, G_35⟩ := u_31
    refine W.eq (g2 := F0 m 21 ls [.int (iZ (-1))]) rfl ?_
    exact EWi hx hb hr hlocks hS (fun i => [(-1), 1].getD i 0, fun i => [0].getD i 0, fun i => [Kf, Lf, Bf, Hf].getD i (fun _ => 0), fun i => [].getD i (fun _ => 0)) rfl (show rgI Hf 0 1000000 120 from rgH) (hP.sub [5, 0, 1, 2, 3, 4] rfl) (hD.sub [5, 0, 1, 2, 3, 4] rfl rfl) dX12_heard_21
set_option maxHeartbeats 4000000 in
set_option maxRecDepth 100000 in
theorem q_rules (l : Launch) (D : va_G) (k : Nat → ClassId) (hm : Nat) (Ma : Nat) (Mn : Nat) (Ms : Nat) (My : Nat) (Mt : Nat) (Mp : Nat) (Mx : Nat) (Mo : Nat) (Mk : Nat) (Ml : Nat) (Mb : Nat) (Mh : Nat) (Mc : Nat) (Mz : Nat) (Mr : Nat) (Mq : Nat) (Mst : Int) (Mtd : Int) (Msz : Int) (Mtk : Int) (Mfr : Int) (Men : Int) (Mva : Int) (Mfk : Int) (Mfp : Int) (Mfs : Int) (Mse : Int) (Mlt : Int) (Mdp : Int) (Mct : Int) (Mdr : Int) (Mrs : Int) (Mit : Int) (Mmk : Int) (Mtp : Int64) (Mbt : Int64) (Af : Nat → Int32) (Kf : Nat → Int32) (Lf : Nat → Int32) (Bf : Nat → Int32) (Hf : Nat → Int32) (x1 : Int) (x2 : Int) (hM : M0 Af) (rgH : rgI Hf 0 1000000 120) (h9x1 : -2147483648 ≤ x1 ∧ x1 < 2147483648) (h9x2 : -2147483648 ≤ x2 ∧ x2 < 2147483648) : WD (σ := ((Nat → Int) × (Nat → Int64) × (Nat → Nat → Int32) × (Nat → Nat → Int64))) l yX12_rules cX12_rules 3 (some .int) 8 0 0 D k [.ref hm, .int (iZ x1), .int (iZ x2)] [(hm, .inr (12, [.ref Ma, .ref Mn, .int (iZ Mst), .long Mtp, .long Mbt, .ref Ms, .ref My, .ref Mt, .ref Mp, .ref Mx, .int (iZ Mtd), .int (iZ Msz), .int (iZ Mtk), .int (iZ Mfr), .int (iZ Men), .int (iZ Mva), .int (iZ Mfk), .int (iZ Mfp), .int (iZ Mfs), .int (iZ Mse), .int (iZ Mlt), .ref Mo, .int (iZ Mdp), .int (iZ Mct), .ref Mk, .ref Ml, .ref Mb, .ref Mh, .ref Mc, .int (iZ Mdr), .int (iZ Mrs), .ref Mz, .ref Mr, .ref Mq, .int (iZ Mit), .int (iZ Mmk)])), (Ma, .inl (k 1, 5340, .inl Af)), (Mk, .inl (k 1, 6, .inl Kf)), (Ml, .inl (k 1, 6, .inl Lf)), (Mb, .inl (k 1, 6, .inl Bf)), (Mh, .inl (k 1, 120, .inl Hf))] (fun u => some (.int (iZ (u.1 0)))) (fun u => rgI (u.2.2.1 3) 0 1000000 120) (fun u => [(hm, .inr (12, [.ref Ma, .ref Mn, .int (iZ (u.1 1)), .long Mtp, .long Mbt, .ref Ms, .ref My, .ref Mt, .ref Mp, .ref Mx, .int (iZ Mtd), .int (iZ Msz), .int (iZ Mtk), .int (iZ Mfr), .int (iZ Men), .int (iZ Mva), .int (iZ Mfk), .int (iZ Mfp), .int (iZ Mfs), .int (iZ Mse), .int (iZ Mlt), .ref Mo, .int (iZ Mdp), .int (iZ Mct), .ref Mk, .ref Ml, .ref Mb, .ref Mh, .ref Mc, .int (iZ Mdr), .int (iZ Mrs), .ref Mz, .ref Mr, .ref Mq, .int (iZ Mit), .int (iZ Mmk)])), (Ma, .inl (k 1, 5340, .inl Af)), (Mk, .inl (k 1, 6, .inl (u.2.2.1 0))), (Ml, .inl (k 1, 6, .inl (u.2.2.1 1))), (Mb, .inl (k 1, 6, .inl (u.2.2.1 2))), (Mh, .inl (k 1, 120, .inl (u.2.2.1 3)))]) := by
  refine MW (by decide) (Nat.le_of_ble_eq_true rfl) (fun p e s m below meth c ls A hx hb hml hr hlocks hin hts hown hKK hP hD hS hA hl => ?_)
  have hK := hKK.1
  have hl : lv_has ls 3 [(0, .ref hm), (1, .int (iZ x1)), (2, .int (iZ x2))] := hl
  obtain ⟨m0, m1, m3, m4, m5, mF, mO, mS⟩ := id hM
  refine lv_aload_n hx hb dX12_rules_0 rfl (lv_at hl 0 rfl) ?_
  refine lv_iload_n hx hb dX12_rules_1 rfl (lv_at hl 1 rfl) ?_
  refine CPV (As := [.int (iZ x1)]) (rest := []) hx hb hml hown hts hKK (hP.sub (ws' := [(hm, .inr (12, [.ref Ma, .ref Mn, .int (iZ Mst), .long Mtp, .long Mbt, .ref Ms, .ref My, .ref Mt, .ref Mp, .ref Mx, .int (iZ Mtd), .int (iZ Msz), .int (iZ Mtk), .int (iZ Mfr), .int (iZ Men), .int (iZ Mva), .int (iZ Mfk), .int (iZ Mfp), .int (iZ Mfs), .int (iZ Mse), .int (iZ Mlt), .ref Mo, .int (iZ Mdp), .int (iZ Mct), .ref Mk, .ref Ml, .ref Mb, .ref Mh, .ref Mc, .int (iZ Mdr), .int (iZ Mrs), .ref Mz, .ref Mr, .ref Mq, .int (iZ Mit), .int (iZ Mmk)])), (Ma, .inl (k 1, 5340, .inl Af))]) [0, 1] rfl) (m_isRock l D k ([.ref Ma, .ref Mn, .int (iZ Mst), .long Mtp, .long Mbt, .ref Ms, .ref My, .ref Mt, .ref Mp, .ref Mx, .int (iZ Mtd), .int (iZ Msz), .int (iZ Mtk), .int (iZ Mfr), .int (iZ Men), .int (iZ Mva), .int (iZ Mfk), .int (iZ Mfp), .int (iZ Mfs), .int (iZ Mse), .int (iZ Mlt), .ref Mo, .int (iZ Mdp), .int (iZ Mct), .ref Mk, .ref Ml, .ref Mb, .ref Mh, .ref Mc, .int (iZ Mdr), .int (iZ Mrs), .ref Mz, .ref Mr, .ref Mq, .int (iZ Mit), .int (iZ Mmk)]) hm Ma Af x1 rfl hM ⟨by omega, by omega⟩) ci_X12_isRock qm_X12_243 ⟨Nat.le_of_ble_eq_true rfl, Nat.le_of_ble_eq_true rfl⟩ ⟨Nat.le_of_ble_eq_true rfl, Nat.le_of_ble_eq_true rfl⟩ 0 rfl rfl rfl hl.1 rfl (Nat.le_of_ble_eq_true rfl) dX12_rules_2 (fun z_1 hz_1 => ?_)
  rcases hz_1 with ⟨qz_1, hz_1⟩ | ⟨qz_1, hz_1⟩
  ·
    subst qz_1
    refine lv_if_eq (tgt := 15) hx hb dX12_rules_5 (by decide) (fun c => absurd c (by decide)) (fun _ => ?_)
    refine lv_iload_n hx hb dX12_rules_8 rfl (lv_at hl 2 rfl) ?_
    refine CPS (As := [.int (iZ x2)]) (rest := []) hx hb hml hown hts hKK (hP.sub (ws' := []) [] rfl) (m_isAsked l D k x2 ⟨by omega, by omega⟩) ci_X12_isAsked qm_X12_258 ⟨Nat.le_of_ble_eq_true rfl, Nat.le_of_ble_eq_true rfl⟩ ⟨Nat.le_of_ble_eq_true rfl, Nat.le_of_ble_eq_true rfl⟩ rfl hl.1 rfl (Nat.le_of_ble_eq_true rfl) dX12_rules_9 (fun z_3 hz_3 => ?_)
    rcases hz_3 with ⟨qz_3, hz_3⟩ | ⟨qz_3, hz_3⟩
    ·
      subst qz_3
      refine lv_if_ne (tgt := 21) hx hb dX12_rules_12 (by decide) (fun _ => ?_) (fun c => absurd c (by decide))
      refine lv_aload_n hx hb dX12_rules_21 rfl (lv_at hl 0 rfl) ?_
      refine CWV (As := []) (rest := []) (wc := [(hm, .inr (12, [.ref Ma, .ref Mn, .int (iZ Mst), .long Mtp, .long Mbt, .ref Ms, .ref My, .ref Mt, .ref Mp, .ref Mx, .int (iZ Mtd), .int (iZ Msz), .int (iZ Mtk), .int (iZ Mfr), .int (iZ Men), .int (iZ Mva), .int (iZ Mfk), .int (iZ Mfp), .int (iZ Mfs), .int (iZ Mse), .int (iZ Mlt), .ref Mo, .int (iZ Mdp), .int (iZ Mct), .ref Mk, .ref Ml, .ref Mb, .ref Mh, .ref Mc, .int (iZ Mdr), .int (iZ Mrs), .ref Mz, .ref Mr, .ref Mq, .int (iZ Mit), .int (iZ Mmk)])), (Ma, .inl (k 1, 5340, .inl Af)), (Mk, .inl (k 1, 6, .inl Kf)), (Ml, .inl (k 1, 6, .inl Lf)), (Mb, .inl (k 1, 6, .inl Bf)), (Mh, .inl (k 1, 120, .inl Hf))]) (wr := []) hx hb hml hown hts hKK hP hD hS hA (m_laysOrders l D k hm Ma Mn Ms My Mt Mp Mx Mo Mk Ml Mb Mh Mc Mz Mr Mq Mst Mtd Msz Mtk Mfr Men Mva Mfk Mfp Mfs Mse Mlt Mdp Mct Mdr Mrs Mit Mmk Mtp Mbt Af Kf Lf Bf Hf hM rgH) ci_X12_laysOrders qm_X12_330 ⟨Nat.le_of_ble_eq_true rfl, Nat.le_of_ble_eq_true rfl⟩ ⟨Nat.le_of_ble_eq_true rfl, Nat.le_of_ble_eq_true rfl⟩ [0, 1, 2, 3, 4, 5] [] rfl rfl rfl rfl rfl (by decide) 0 rfl rfl rfl hl.1 rfl (Nat.le_of_ble_eq_true rfl) dX12_rules_22 (fun u_5 H locs hφ hP hD hS => ?_)
      obtain ⟨I_6, L_7, F_8, G_9⟩ := u_5
      have p_11 : rgI (F_8 3) 0 1000000 120 := hφ
      refine W.eq (g2 := F0 m 25 ls []) rfl ?_
      refine lv_aload_n hx hb dX12_rules_25 rfl (lv_at hl 0 rfl) ?_
      refine lv_aload_n hx hb dX12_rules_26 rfl (lv_at hl 0 rfl) ?_
      refine lv_iload_n hx hb dX12_rules_27 rfl (lv_at hl 1 rfl) ?_
      refine lv_iload_n hx hb dX12_rules_28 rfl (lv_at hl 2 rfl) ?_
      refine CPV (As := [.int (iZ x1), .int (iZ x2)]) (rest := [.ref hm]) hx hb hml hown hts hKK (hP.sub (ws' := [(hm, .inr (12, [.ref Ma, .ref Mn, .int (iZ Mst), .long Mtp, .long Mbt, .ref Ms, .ref My, .ref Mt, .ref Mp, .ref Mx, .int (iZ Mtd), .int (iZ Msz), .int (iZ Mtk), .int (iZ Mfr), .int (iZ Men), .int (iZ Mva), .int (iZ Mfk), .int (iZ Mfp), .int (iZ Mfs), .int (iZ Mse), .int (iZ Mlt), .ref Mo, .int (iZ Mdp), .int (iZ Mct), .ref Mk, .ref Ml, .ref Mb, .ref Mh, .ref Mc, .int (iZ Mdr), .int (iZ Mrs), .ref Mz, .ref Mr, .ref Mq, .int (iZ Mit), .int (iZ Mmk)])), (Ma, .inl (k 1, 5340, .inl Af)), (Mh, .inl (k 1, 120, .inl (F_8 3)))]) [0, 1, 5] rfl) (m_ruling l D k ([.ref Ma, .ref Mn, .int (iZ Mst), .long Mtp, .long Mbt, .ref Ms, .ref My, .ref Mt, .ref Mp, .ref Mx, .int (iZ Mtd), .int (iZ Msz), .int (iZ Mtk), .int (iZ Mfr), .int (iZ Men), .int (iZ Mva), .int (iZ Mfk), .int (iZ Mfp), .int (iZ Mfs), .int (iZ Mse), .int (iZ Mlt), .ref Mo, .int (iZ Mdp), .int (iZ Mct), .ref Mk, .ref Ml, .ref Mb, .ref Mh, .ref Mc, .int (iZ Mdr), .int (iZ Mrs), .ref Mz, .ref Mr, .ref Mq, .int (iZ Mit), .int (iZ Mmk)]) hm Ma Mh Af (F_8 3) x1 x2 rfl rfl hM ⟨by omega, by omega⟩ ⟨by omega, by omega⟩ p_11) ci_X12_ruling qm_X12_333 ⟨Nat.le_of_ble_eq_true rfl, Nat.le_of_ble_eq_true rfl⟩ ⟨Nat.le_of_ble_eq_true rfl, Nat.le_of_ble_eq_true rfl⟩ 0 rfl rfl rfl hl.1 rfl (Nat.le_of_ble_eq_true rfl) dX12_rules_29 (fun z_12 hz_12 => ?_)
      refine CWV (As := [.int (iZ z_12)]) (rest := []) (wc := [(hm, .inr (12, [.ref Ma, .ref Mn, .int (iZ Mst), .long Mtp, .long Mbt, .ref Ms, .ref My, .ref Mt, .ref Mp, .ref Mx, .int (iZ Mtd), .int (iZ Msz), .int (iZ Mtk), .int (iZ Mfr), .int (iZ Men), .int (iZ Mva), .int (iZ Mfk), .int (iZ Mfp), .int (iZ Mfs), .int (iZ Mse), .int (iZ Mlt), .ref Mo, .int (iZ Mdp), .int (iZ Mct), .ref Mk, .ref Ml, .ref Mb, .ref Mh, .ref Mc, .int (iZ Mdr), .int (iZ Mrs), .ref Mz, .ref Mr, .ref Mq, .int (iZ Mit), .int (iZ Mmk)]))]) (wr := [(Ma, .inl (k 1, 5340, .inl Af)), (Mk, .inl (k 1, 6, .inl (F_8 0))), (Ml, .inl (k 1, 6, .inl (F_8 1))), (Mb, .inl (k 1, 6, .inl (F_8 2))), (Mh, .inl (k 1, 120, .inl (F_8 3)))]) hx hb hml hown hts hKK hP hD hS hA (m_orNone l D k hm Ma Mn Ms My Mt Mp Mx Mo Mk Ml Mb Mh Mc Mz Mr Mq Mst Mtd Msz Mtk Mfr Men Mva Mfk Mfp Mfs Mse Mlt Mdp Mct Mdr Mrs Mit Mmk Mtp Mbt z_12 ⟨by omega, by omega⟩) ci_X12_orNone qm_X12_290 ⟨Nat.le_of_ble_eq_true rfl, Nat.le_of_ble_eq_true rfl⟩ ⟨Nat.le_of_ble_eq_true rfl, Nat.le_of_ble_eq_true rfl⟩ [0] [1, 2, 3, 4, 5] rfl rfl rfl rfl rfl (by decide) 0 rfl rfl rfl hl.1 rfl (Nat.le_of_ble_eq_true rfl) dX12_rules_32 (fun u_13 H locs hφ hP hD hS => ?_)
      obtain ⟨I_14, L_15, F_16, G_17⟩ := u_13
      have p_19 : ((z_12 : Int) = -1 ∧ (I_14 1) = 6) ∨ (¬ (z_12 : Int) = -1 ∧ (I_14 1) = 0) := hφ
      refine W.eq (g2 := F0 m 35 ls [.int (iZ z_12)]) rfl ?_
      exact EWi hx hb hr hlocks hS (fun i => [z_12, (I_14 1)].getD i 0, fun i => [0].getD i 0, fun i => [(F_8 0), (F_8 1), (F_8 2), (F_8 3)].getD i (fun _ => 0), fun i => [].getD i (fun _ => 0)) rfl (show rgI (F_8 3) 0 1000000 120 from p_11) (hP.sub [5, 0, 1, 2, 3, 4] rfl) (hD.sub [5, 0, 1, 2, 3, 4] rfl rfl) dX12_rules_35
    ·
      subst qz_3
      refine lv_if_ne (tgt := 21) hx hb dX12_rules_12 (by decide) (fun c => absurd (by decide) c) (fun _ => ?_)
      refine lv_aload_n hx hb dX12_rules_15 rfl (lv_at hl 0 rfl) ?_
      refine lv_iconst (v := iZ 1) hx hb dX12_rules_16 (by decide) ?_
      refine CWV (As := [.int (iZ 1)]) (rest := []) (wc := [(hm, .inr (12, [.ref Ma, .ref Mn, .int (iZ Mst), .long Mtp, .long Mbt, .ref Ms, .ref My, .ref Mt, .ref Mp, .ref Mx, .int (iZ Mtd), .int (iZ Msz), .int (iZ Mtk), .int (iZ Mfr), .int (iZ Men), .int (iZ Mva), .int (iZ Mfk), .int (iZ Mfp), .int (iZ Mfs), .int (iZ Mse), .int (iZ Mlt), .ref Mo, .int (iZ Mdp), .int (iZ Mct), .ref Mk, .ref Ml, .ref Mb, .ref Mh, .ref Mc, .int (iZ Mdr), .int (iZ Mrs), .ref Mz, .ref Mr, .ref Mq, .int (iZ Mit), .int (iZ Mmk)]))]) (wr := [(Ma, .inl (k 1, 5340, .inl Af)), (Mk, .inl (k 1, 6, .inl Kf)), (Ml, .inl (k 1, 6, .inl Lf)), (Mb, .inl (k 1, 6, .inl Bf)), (Mh, .inl (k 1, 120, .inl Hf))]) hx hb hml hown hts hKK hP hD hS hA (m_refuse l D k hm Ma Mn Ms My Mt Mp Mx Mo Mk Ml Mb Mh Mc Mz Mr Mq Mst Mtd Msz Mtk Mfr Men Mva Mfk Mfp Mfs Mse Mlt Mdp Mct Mdr Mrs Mit Mmk Mtp Mbt 1) ci_X12_refuse qm_X12_81 ⟨Nat.le_of_ble_eq_true rfl, Nat.le_of_ble_eq_true rfl⟩ ⟨Nat.le_of_ble_eq_true rfl, Nat.le_of_ble_eq_true rfl⟩ [0] [1, 2, 3, 4, 5] rfl rfl rfl rfl rfl (by decide) 0 rfl rfl rfl hl.1 rfl (Nat.le_of_ble_eq_true rfl) dX12_rules_17 (fun u_21 H locs hφ hP hD hS => ?_)
      obtain ⟨I_22, L_23, F_24, G_25⟩ := u_21
      refine W.eq (g2 := F0 m 20 ls [.int (iZ (-1))]) rfl ?_
      exact EWi hx hb hr hlocks hS (fun i => [(-1), 1].getD i 0, fun i => [0].getD i 0, fun i => [Kf, Lf, Bf, Hf].getD i (fun _ => 0), fun i => [].getD i (fun _ => 0)) rfl (show rgI Hf 0 1000000 120 from rgH) (hP.sub [5, 0, 1, 2, 3, 4] rfl) (hD.sub [5, 0, 1, 2, 3, 4] rfl rfl) dX12_rules_20
  ·
    subst qz_1
    refine lv_if_eq (tgt := 15) hx hb dX12_rules_5 (by decide) (fun _ => ?_) (fun c => absurd (by decide) c)
    refine lv_aload_n hx hb dX12_rules_15 rfl (lv_at hl 0 rfl) ?_
    refine lv_iconst (v := iZ 1) hx hb dX12_rules_16 (by decide) ?_
    refine CWV (As := [.int (iZ 1)]) (rest := []) (wc := [(hm, .inr (12, [.ref Ma, .ref Mn, .int (iZ Mst), .long Mtp, .long Mbt, .ref Ms, .ref My, .ref Mt, .ref Mp, .ref Mx, .int (iZ Mtd), .int (iZ Msz), .int (iZ Mtk), .int (iZ Mfr), .int (iZ Men), .int (iZ Mva), .int (iZ Mfk), .int (iZ Mfp), .int (iZ Mfs), .int (iZ Mse), .int (iZ Mlt), .ref Mo, .int (iZ Mdp), .int (iZ Mct), .ref Mk, .ref Ml, .ref Mb, .ref Mh, .ref Mc, .int (iZ Mdr), .int (iZ Mrs), .ref Mz, .ref Mr, .ref Mq, .int (iZ Mit), .int (iZ Mmk)]))]) (wr := [(Ma, .inl (k 1, 5340, .inl Af)), (Mk, .inl (k 1, 6, .inl Kf)), (Ml, .inl (k 1, 6, .inl Lf)), (Mb, .inl (k 1, 6, .inl Bf)), (Mh, .inl (k 1, 120, .inl Hf))]) hx hb hml hown hts hKK hP hD hS hA (m_refuse l D k hm Ma Mn Ms My Mt Mp Mx Mo Mk Ml Mb Mh Mc Mz Mr Mq Mst Mtd Msz Mtk Mfr Men Mva Mfk Mfp Mfs Mse Mlt Mdp Mct Mdr Mrs Mit Mmk Mtp Mbt 1) ci_X12_refuse qm_X12_81 ⟨Nat.le_of_ble_eq_true rfl, Nat.le_of_ble_eq_true rfl⟩ ⟨Nat.le_of_ble_eq_true rfl, Nat.le_of_ble_eq_true rfl⟩ [0] [1, 2, 3, 4, 5] rfl rfl rfl rfl rfl (by decide) 0 rfl rfl rfl hl.1 rfl (Nat.le_of_ble_eq_true rfl) dX12_rules_17 (fun u_28 H locs hφ hP hD hS => ?_)
    obtain ⟨I_29, L_30, F_31, G_32⟩ := u_28
    refine W.eq (g2 := F0 m 20 ls [.int (iZ (-1))]) rfl ?_
    exact EWi hx hb hr hlocks hS (fun i => [(-1), 1].getD i 0, fun i => [0].getD i 0, fun i => [Kf, Lf, Bf, Hf].getD i (fun _ => 0), fun i => [].getD i (fun _ => 0)) rfl (show rgI Hf 0 1000000 120 from rgH) (hP.sub [5, 0, 1, 2, 3, 4] rfl) (hD.sub [5, 0, 1, 2, 3, 4] rfl rfl) dX12_rules_20
set_option maxHeartbeats 4000000 in
set_option maxRecDepth 100000 in
theorem q_ruled (l : Launch) (D : va_G) (k : Nat → ClassId) (hm : Nat) (Ma : Nat) (Mn : Nat) (Ms : Nat) (My : Nat) (Mt : Nat) (Mp : Nat) (Mx : Nat) (Mo : Nat) (Mk : Nat) (Ml : Nat) (Mb : Nat) (Mh : Nat) (Mc : Nat) (Mz : Nat) (Mr : Nat) (Mq : Nat) (Mst : Int) (Mtd : Int) (Msz : Int) (Mtk : Int) (Mfr : Int) (Men : Int) (Mva : Int) (Mfk : Int) (Mfp : Int) (Mfs : Int) (Mse : Int) (Mlt : Int) (Mdp : Int) (Mct : Int) (Mdr : Int) (Mrs : Int) (Mit : Int) (Mmk : Int) (Mtp : Int64) (Mbt : Int64) (Af : Nat → Int32) (Kf : Nat → Int32) (Lf : Nat → Int32) (Bf : Nat → Int32) (Hf : Nat → Int32) (x1 : Int) (x2 : Int) (hM : M0 Af) (rgH : rgI Hf 0 1000000 120) (h9x1 : -2147483648 ≤ x1 ∧ x1 < 2147483648) (h9x2 : -2147483648 ≤ x2 ∧ x2 < 2147483648) : WD (σ := ((Nat → Int) × (Nat → Int64) × (Nat → Nat → Int32) × (Nat → Nat → Int64))) l yX12_ruled cX12_ruled 5 (some .int) 8 0 0 D k [.ref hm, .int (iZ x1), .int (iZ x2)] [(hm, .inr (12, [.ref Ma, .ref Mn, .int (iZ Mst), .long Mtp, .long Mbt, .ref Ms, .ref My, .ref Mt, .ref Mp, .ref Mx, .int (iZ Mtd), .int (iZ Msz), .int (iZ Mtk), .int (iZ Mfr), .int (iZ Men), .int (iZ Mva), .int (iZ Mfk), .int (iZ Mfp), .int (iZ Mfs), .int (iZ Mse), .int (iZ Mlt), .ref Mo, .int (iZ Mdp), .int (iZ Mct), .ref Mk, .ref Ml, .ref Mb, .ref Mh, .ref Mc, .int (iZ Mdr), .int (iZ Mrs), .ref Mz, .ref Mr, .ref Mq, .int (iZ Mit), .int (iZ Mmk)])), (Ma, .inl (k 1, 5340, .inl Af)), (Mk, .inl (k 1, 6, .inl Kf)), (Ml, .inl (k 1, 6, .inl Lf)), (Mb, .inl (k 1, 6, .inl Bf)), (Mh, .inl (k 1, 120, .inl Hf))] (fun u => some (.int (iZ (u.1 0)))) (fun u => rgI (u.2.2.1 3) 0 1000000 120) (fun u => [(hm, .inr (12, [.ref Ma, .ref Mn, .int (iZ (u.1 1)), .long Mtp, .long Mbt, .ref Ms, .ref My, .ref Mt, .ref Mp, .ref Mx, .int (iZ Mtd), .int (iZ Msz), .int (iZ Mtk), .int (iZ Mfr), .int (iZ Men), .int (iZ Mva), .int (iZ Mfk), .int (iZ Mfp), .int (iZ Mfs), .int (iZ Mse), .int (iZ Mlt), .ref Mo, .int (iZ Mdp), .int (iZ Mct), .ref Mk, .ref Ml, .ref Mb, .ref Mh, .ref Mc, .int (iZ Mdr), .int (iZ Mrs), .ref Mz, .ref Mr, .ref Mq, .int (iZ Mit), .int (iZ Mmk)])), (Ma, .inl (k 1, 5340, .inl Af)), (Mk, .inl (k 1, 6, .inl (u.2.2.1 0))), (Ml, .inl (k 1, 6, .inl (u.2.2.1 1))), (Mb, .inl (k 1, 6, .inl (u.2.2.1 2))), (Mh, .inl (k 1, 120, .inl (u.2.2.1 3)))]) := by
  refine MW (by decide) (Nat.le_of_ble_eq_true rfl) (fun p e s m below meth c ls A hx hb hml hr hlocks hin hts hown hKK hP hD hS hA hl => ?_)
  have hK := hKK.1
  have hl : lv_has ls 5 [(0, .ref hm), (1, .int (iZ x1)), (2, .int (iZ x2))] := hl
  obtain ⟨m0, m1, m3, m4, m5, mF, mO, mS⟩ := id hM
  refine lv_aload_n hx hb dX12_ruled_0 rfl (lv_at hl 0 rfl) ?_
  refine lv_iload_n hx hb dX12_ruled_1 rfl (lv_at hl 1 rfl) ?_
  refine CPV (As := [.int (iZ x1)]) (rest := []) hx hb hml hown hts hKK (hP.sub (ws' := [(hm, .inr (12, [.ref Ma, .ref Mn, .int (iZ Mst), .long Mtp, .long Mbt, .ref Ms, .ref My, .ref Mt, .ref Mp, .ref Mx, .int (iZ Mtd), .int (iZ Msz), .int (iZ Mtk), .int (iZ Mfr), .int (iZ Men), .int (iZ Mva), .int (iZ Mfk), .int (iZ Mfp), .int (iZ Mfs), .int (iZ Mse), .int (iZ Mlt), .ref Mo, .int (iZ Mdp), .int (iZ Mct), .ref Mk, .ref Ml, .ref Mb, .ref Mh, .ref Mc, .int (iZ Mdr), .int (iZ Mrs), .ref Mz, .ref Mr, .ref Mq, .int (iZ Mit), .int (iZ Mmk)])), (Ma, .inl (k 1, 5340, .inl Af))]) [0, 1] rfl) (m_isOrder l D k ([.ref Ma, .ref Mn, .int (iZ Mst), .long Mtp, .long Mbt, .ref Ms, .ref My, .ref Mt, .ref Mp, .ref Mx, .int (iZ Mtd), .int (iZ Msz), .int (iZ Mtk), .int (iZ Mfr), .int (iZ Men), .int (iZ Mva), .int (iZ Mfk), .int (iZ Mfp), .int (iZ Mfs), .int (iZ Mse), .int (iZ Mlt), .ref Mo, .int (iZ Mdp), .int (iZ Mct), .ref Mk, .ref Ml, .ref Mb, .ref Mh, .ref Mc, .int (iZ Mdr), .int (iZ Mrs), .ref Mz, .ref Mr, .ref Mq, .int (iZ Mit), .int (iZ Mmk)]) hm Ma Af x1 rfl hM ⟨by omega, by omega⟩) ci_X12_isOrder qm_X12_324 ⟨Nat.le_of_ble_eq_true rfl, Nat.le_of_ble_eq_true rfl⟩ ⟨Nat.le_of_ble_eq_true rfl, Nat.le_of_ble_eq_true rfl⟩ 0 rfl rfl rfl hl.1 rfl (Nat.le_of_ble_eq_true rfl) dX12_ruled_2 (fun z_1 hz_1 => ?_)
  rcases hz_1 with ⟨qz_1, hz_1⟩ | ⟨qz_1, hz_1⟩
  ·
    subst qz_1
    refine lv_if_eq (tgt := 15) hx hb dX12_ruled_5 (by decide) (fun c => absurd c (by decide)) (fun _ => ?_)
    refine lv_iload_n hx hb dX12_ruled_8 rfl (lv_at hl 2 rfl) ?_
    refine CPS (As := [.int (iZ x2)]) (rest := []) hx hb hml hown hts hKK (hP.sub (ws' := []) [] rfl) (m_isAsked l D k x2 ⟨by omega, by omega⟩) ci_X12_isAsked qm_X12_258 ⟨Nat.le_of_ble_eq_true rfl, Nat.le_of_ble_eq_true rfl⟩ ⟨Nat.le_of_ble_eq_true rfl, Nat.le_of_ble_eq_true rfl⟩ rfl hl.1 rfl (Nat.le_of_ble_eq_true rfl) dX12_ruled_9 (fun z_3 hz_3 => ?_)
    rcases hz_3 with ⟨qz_3, hz_3⟩ | ⟨qz_3, hz_3⟩
    ·
      subst qz_3
      refine lv_if_ne (tgt := 21) hx hb dX12_ruled_12 (by decide) (fun _ => ?_) (fun c => absurd c (by decide))
      refine lv_aload_n hx hb dX12_ruled_21 rfl (lv_at hl 0 rfl) ?_
      refine CWV (As := []) (rest := []) (wc := [(hm, .inr (12, [.ref Ma, .ref Mn, .int (iZ Mst), .long Mtp, .long Mbt, .ref Ms, .ref My, .ref Mt, .ref Mp, .ref Mx, .int (iZ Mtd), .int (iZ Msz), .int (iZ Mtk), .int (iZ Mfr), .int (iZ Men), .int (iZ Mva), .int (iZ Mfk), .int (iZ Mfp), .int (iZ Mfs), .int (iZ Mse), .int (iZ Mlt), .ref Mo, .int (iZ Mdp), .int (iZ Mct), .ref Mk, .ref Ml, .ref Mb, .ref Mh, .ref Mc, .int (iZ Mdr), .int (iZ Mrs), .ref Mz, .ref Mr, .ref Mq, .int (iZ Mit), .int (iZ Mmk)])), (Ma, .inl (k 1, 5340, .inl Af)), (Mk, .inl (k 1, 6, .inl Kf)), (Ml, .inl (k 1, 6, .inl Lf)), (Mb, .inl (k 1, 6, .inl Bf)), (Mh, .inl (k 1, 120, .inl Hf))]) (wr := []) hx hb hml hown hts hKK hP hD hS hA (m_laysOrders l D k hm Ma Mn Ms My Mt Mp Mx Mo Mk Ml Mb Mh Mc Mz Mr Mq Mst Mtd Msz Mtk Mfr Men Mva Mfk Mfp Mfs Mse Mlt Mdp Mct Mdr Mrs Mit Mmk Mtp Mbt Af Kf Lf Bf Hf hM rgH) ci_X12_laysOrders qm_X12_330 ⟨Nat.le_of_ble_eq_true rfl, Nat.le_of_ble_eq_true rfl⟩ ⟨Nat.le_of_ble_eq_true rfl, Nat.le_of_ble_eq_true rfl⟩ [0, 1, 2, 3, 4, 5] [] rfl rfl rfl rfl rfl (by decide) 0 rfl rfl rfl hl.1 rfl (Nat.le_of_ble_eq_true rfl) dX12_ruled_22 (fun u_5 H locs hφ hP hD hS => ?_)
      obtain ⟨I_6, L_7, F_8, G_9⟩ := u_5
      have p_11 : rgI (F_8 3) 0 1000000 120 := hφ
      refine W.eq (g2 := F0 m 25 ls []) rfl ?_
      refine lv_iconst (v := iZ 0) hx hb dX12_ruled_25 (by decide) ?_
      refine lv_istore_n (lv' := [(3, .int (iZ 0)), (0, .ref hm), (1, .int (iZ x1)), (2, .int (iZ x2))]) hx hb dX12_ruled_26 rfl hl (by decide) rfl (fun ls hl => ?_)
      refine lv_iconst (v := iZ 0) hx hb dX12_ruled_27 (by decide) ?_
      refine lv_istore (lv' := [(4, .int (iZ 0)), (3, .int (iZ 0)), (0, .ref hm), (1, .int (iZ x1)), (2, .int (iZ x2))]) hx hb dX12_ruled_28 hl (by decide) rfl (fun ls hl => ?_)
      have HL30 : ∀ (fu : Nat) (v3_30 : Int) (v4_30 : Int) (H : Heap) (locs : List Loc) (ls : Array Slot), ((gz Af 0) + 2 - v4_30) < (fu : Int) → ((0 ≤ v4_30 ∧ v4_30 ≤ (gz Af 0) + 1)) → (-2147483648 ≤ v3_30 ∧ v3_30 < 2147483648) → va_P D vwCl [(hm, .inr (12, [.ref Ma, .ref Mn, .int (iZ Mst), .long Mtp, .long Mbt, .ref Ms, .ref My, .ref Mt, .ref Mp, .ref Mx, .int (iZ Mtd), .int (iZ Msz), .int (iZ Mtk), .int (iZ Mfr), .int (iZ Men), .int (iZ Mva), .int (iZ Mfk), .int (iZ Mfp), .int (iZ Mfs), .int (iZ Mse), .int (iZ Mlt), .ref Mo, .int (iZ Mdp), .int (iZ Mct), .ref Mk, .ref Ml, .ref Mb, .ref Mh, .ref Mc, .int (iZ Mdr), .int (iZ Mrs), .ref Mz, .ref Mr, .ref Mq, .int (iZ Mit), .int (iZ Mmk)])), (Ma, .inl (k 1, 5340, .inl Af)), (Mk, .inl (k 1, 6, .inl (F_8 0))), (Ml, .inl (k 1, 6, .inl (F_8 1))), (Mb, .inl (k 1, 6, .inl (F_8 2))), (Mh, .inl (k 1, 120, .inl (F_8 3)))] H → va_D A [(hm, .inr (12, [.ref Ma, .ref Mn, .int (iZ Mst), .long Mtp, .long Mbt, .ref Ms, .ref My, .ref Mt, .ref Mp, .ref Mx, .int (iZ Mtd), .int (iZ Msz), .int (iZ Mtk), .int (iZ Mfr), .int (iZ Men), .int (iZ Mva), .int (iZ Mfk), .int (iZ Mfp), .int (iZ Mfs), .int (iZ Mse), .int (iZ Mlt), .ref Mo, .int (iZ Mdp), .int (iZ Mct), .ref Mk, .ref Ml, .ref Mb, .ref Mh, .ref Mc, .int (iZ Mdr), .int (iZ Mrs), .ref Mz, .ref Mr, .ref Mq, .int (iZ Mit), .int (iZ Mmk)])), (Ma, .inl (k 1, 5340, .inl Af)), (Mk, .inl (k 1, 6, .inl (F_8 0))), (Ml, .inl (k 1, 6, .inl (F_8 1))), (Mb, .inl (k 1, 6, .inl (F_8 2))), (Mh, .inl (k 1, 120, .inl (F_8 3)))] → va_S A s.heap H locs → lv_has ls 5 [(4, .int (iZ v4_30)), (3, .int (iZ v3_30)), (0, .ref hm), (1, .int (iZ x1)), (2, .int (iZ x2))] → W p l e (rj 8 0 0) s m [.ref hm, .int (iZ x1), .int (iZ x2)].toArray below meth c H locs 0 0 (MQ below (QW (σ := ((Nat → Int) × (Nat → Int64) × (Nat → Nat → Int32) × (Nat → Nat → Int64))) (fun u => some (.int (iZ (u.1 0)))) (fun u => rgI (u.2.2.1 3) 0 1000000 120) (fun u => [(hm, .inr (12, [.ref Ma, .ref Mn, .int (iZ (u.1 1)), .long Mtp, .long Mbt, .ref Ms, .ref My, .ref Mt, .ref Mp, .ref Mx, .int (iZ Mtd), .int (iZ Msz), .int (iZ Mtk), .int (iZ Mfr), .int (iZ Men), .int (iZ Mva), .int (iZ Mfk), .int (iZ Mfp), .int (iZ Mfs), .int (iZ Mse), .int (iZ Mlt), .ref Mo, .int (iZ Mdp), .int (iZ Mct), .ref Mk, .ref Ml, .ref Mb, .ref Mh, .ref Mc, .int (iZ Mdr), .int (iZ Mrs), .ref Mz, .ref Mr, .ref Mq, .int (iZ Mit), .int (iZ Mmk)])), (Ma, .inl (k 1, 5340, .inl Af)), (Mk, .inl (k 1, 6, .inl (u.2.2.1 0))), (Ml, .inl (k 1, 6, .inl (u.2.2.1 1))), (Mb, .inl (k 1, 6, .inl (u.2.2.1 2))), (Mh, .inl (k 1, 120, .inl (u.2.2.1 3)))]) D A) [.ref hm, .int (iZ x1), .int (iZ x2)].toArray s 0 0 A) (F0 m 30 ls []) := by
        intro fu
        induction fu with
        | zero => intro v3_30 v4_30 H locs ls hμ30 hi30 hf0_30 hP hD hS hl; exact absurd hμ30 (by omega)
        | succ fu ih30 =>
          intro v3_30 v4_30 H locs ls hμ30 hi30 hf0_30 hP hD hS hl
          refine lv_iload hx hb dX12_ruled_30 (lv_at hl 0 rfl) ?_
          refine lv_aload_n hx hb dX12_ruled_32 rfl (lv_at hl 2 rfl) ?_
          refine va_get (D := D) (ci := 12) (v := .ref Ma) (C := RX12) (T := TX12) (N := 36) hx hb hts iX12 hown hK hP 0 rfl rfl 0 (by decide) (hts _ qf_X12_7) (fun _ h => h) rfl dX12_ruled_33 ?_
          refine lv_iconst (v := iZ 0) hx hb dX12_ruled_36 (by decide) ?_
          refine va_iald hx hb hK hP 1 1 rfl rfl (zin (e := 0) (n := 5340) ⟨by omega, by omega⟩ (by decide)) dX12_ruled_37 ?_
          refine lv_topi (fun x_12 ex_12 => ?_)
          obtain rfl : x_12 = iZ (gz Af 0) := ex_12.trans (gz_eq ⟨by omega, by omega⟩)
          have h_13 := gz_rg Af 0
          refine lv_icmp_ge (tgt := 69) hx hb dX12_ruled_38 (by decide) (fun c_14 => ?_) (fun c_14 => ?_)
          ·
            have c_14 := (zle (x := iZ (gz Af 0)) (y := iZ v4_30) rfl rfl ⟨by omega, by omega⟩ ⟨by omega, by omega⟩).mp c_14
            refine lv_aload_n hx hb dX12_ruled_69 rfl (lv_at hl 2 rfl) ?_
            refine lv_iload_n hx hb dX12_ruled_70 rfl (lv_at hl 1 rfl) ?_
            refine CWV (As := [.int (iZ v3_30)]) (rest := []) (wc := [(hm, .inr (12, [.ref Ma, .ref Mn, .int (iZ Mst), .long Mtp, .long Mbt, .ref Ms, .ref My, .ref Mt, .ref Mp, .ref Mx, .int (iZ Mtd), .int (iZ Msz), .int (iZ Mtk), .int (iZ Mfr), .int (iZ Men), .int (iZ Mva), .int (iZ Mfk), .int (iZ Mfp), .int (iZ Mfs), .int (iZ Mse), .int (iZ Mlt), .ref Mo, .int (iZ Mdp), .int (iZ Mct), .ref Mk, .ref Ml, .ref Mb, .ref Mh, .ref Mc, .int (iZ Mdr), .int (iZ Mrs), .ref Mz, .ref Mr, .ref Mq, .int (iZ Mit), .int (iZ Mmk)]))]) (wr := [(Ma, .inl (k 1, 5340, .inl Af)), (Mk, .inl (k 1, 6, .inl (F_8 0))), (Ml, .inl (k 1, 6, .inl (F_8 1))), (Mb, .inl (k 1, 6, .inl (F_8 2))), (Mh, .inl (k 1, 120, .inl (F_8 3)))]) hx hb hml hown hts hKK hP hD hS hA (m_gives l D k hm Ma Mn Ms My Mt Mp Mx Mo Mk Ml Mb Mh Mc Mz Mr Mq Mst Mtd Msz Mtk Mfr Men Mva Mfk Mfp Mfs Mse Mlt Mdp Mct Mdr Mrs Mit Mmk Mtp Mbt v3_30) ci_X12_gives qm_X12_85 ⟨Nat.le_of_ble_eq_true rfl, Nat.le_of_ble_eq_true rfl⟩ ⟨Nat.le_of_ble_eq_true rfl, Nat.le_of_ble_eq_true rfl⟩ [0] [1, 2, 3, 4, 5] rfl rfl rfl rfl rfl (by decide) 0 rfl rfl rfl hl.1 rfl (Nat.le_of_ble_eq_true rfl) dX12_ruled_71 (fun u_15 H locs hφ hP hD hS => ?_)
            obtain ⟨I_16, L_17, F_18, G_19⟩ := u_15
            refine W.eq (g2 := F0 m 74 ls [.int (iZ v3_30)]) rfl ?_
            exact EWi hx hb hr hlocks hS (fun i => [v3_30, 0].getD i 0, fun i => [0].getD i 0, fun i => [(F_8 0), (F_8 1), (F_8 2), (F_8 3)].getD i (fun _ => 0), fun i => [].getD i (fun _ => 0)) rfl (show rgI (F_8 3) 0 1000000 120 from p_11) (hP.sub [5, 0, 1, 2, 3, 4] rfl) (hD.sub [5, 0, 1, 2, 3, 4] rfl rfl) dX12_ruled_74
          ·
            have c_14 := mt (zle (x := iZ (gz Af 0)) (y := iZ v4_30) rfl rfl ⟨by omega, by omega⟩ ⟨by omega, by omega⟩).mpr c_14
            refine lv_iload_n hx hb dX12_ruled_41 rfl (lv_at hl 1 rfl) ?_
            refine lv_aload_n hx hb dX12_ruled_42 rfl (lv_at hl 2 rfl) ?_
            refine lv_iload hx hb dX12_ruled_43 (lv_at hl 0 rfl) ?_
            refine lv_iload_n hx hb dX12_ruled_45 rfl (lv_at hl 4 rfl) ?_
            refine CPV (As := [.int (iZ v4_30), .int (iZ x2)]) (rest := [.int (iZ v3_30)]) hx hb hml hown hts hKK (hP.sub (ws' := [(hm, .inr (12, [.ref Ma, .ref Mn, .int (iZ Mst), .long Mtp, .long Mbt, .ref Ms, .ref My, .ref Mt, .ref Mp, .ref Mx, .int (iZ Mtd), .int (iZ Msz), .int (iZ Mtk), .int (iZ Mfr), .int (iZ Men), .int (iZ Mva), .int (iZ Mfk), .int (iZ Mfp), .int (iZ Mfs), .int (iZ Mse), .int (iZ Mlt), .ref Mo, .int (iZ Mdp), .int (iZ Mct), .ref Mk, .ref Ml, .ref Mb, .ref Mh, .ref Mc, .int (iZ Mdr), .int (iZ Mrs), .ref Mz, .ref Mr, .ref Mq, .int (iZ Mit), .int (iZ Mmk)])), (Ma, .inl (k 1, 5340, .inl Af)), (Mh, .inl (k 1, 120, .inl (F_8 3)))]) [0, 1, 5] rfl) (m_ruling l D k ([.ref Ma, .ref Mn, .int (iZ Mst), .long Mtp, .long Mbt, .ref Ms, .ref My, .ref Mt, .ref Mp, .ref Mx, .int (iZ Mtd), .int (iZ Msz), .int (iZ Mtk), .int (iZ Mfr), .int (iZ Men), .int (iZ Mva), .int (iZ Mfk), .int (iZ Mfp), .int (iZ Mfs), .int (iZ Mse), .int (iZ Mlt), .ref Mo, .int (iZ Mdp), .int (iZ Mct), .ref Mk, .ref Ml, .ref Mb, .ref Mh, .ref Mc, .int (iZ Mdr), .int (iZ Mrs), .ref Mz, .ref Mr, .ref Mq, .int (iZ Mit), .int (iZ Mmk)]) hm Ma Mh Af (F_8 3) v4_30 x2 rfl rfl hM ⟨by omega, by omega⟩ ⟨by omega, by omega⟩ p_11) ci_X12_ruling qm_X12_333 ⟨Nat.le_of_ble_eq_true rfl, Nat.le_of_ble_eq_true rfl⟩ ⟨Nat.le_of_ble_eq_true rfl, Nat.le_of_ble_eq_true rfl⟩ 0 rfl rfl rfl hl.1 rfl (Nat.le_of_ble_eq_true rfl) dX12_ruled_46 (fun z_21 hz_21 => ?_)
            refine lv_iload_n hx hb dX12_ruled_49 rfl (lv_at hl 3 rfl) ?_
            refine lv_icmp_ne (tgt := 60) hx hb dX12_ruled_50 (by decide) (fun c_22 => ?_) (fun c_22 => ?_)
            ·
              have c_22 := mt (zeq (x := iZ z_21) (y := iZ x1) rfl rfl ⟨by omega, by omega⟩ ⟨by omega, by omega⟩).mpr c_22
              refine lv_iconst (v := iZ 0) hx hb dX12_ruled_60 (by decide) ?_
              refine lv_ior hx hb dX12_ruled_61 ?_
              refine lv_topi (fun x_24 ex_24 => ?_)
              obtain ⟨z_23, hz_23, hz_23a, hz_23b⟩ := i32_z x_24
              subst hz_23
              refine lv_istore_n (lv' := [(3, .int (iZ z_23)), (4, .int (iZ v4_30)), (0, .ref hm), (1, .int (iZ x1)), (2, .int (iZ x2))]) hx hb dX12_ruled_62 rfl hl (by decide) rfl (fun ls hl => ?_)
              refine lv_iinc (v := iZ (v4_30 + 1)) (lv' := [(4, .int (iZ (v4_30 + 1))), (3, .int (iZ z_23)), (0, .ref hm), (1, .int (iZ x1)), (2, .int (iZ x2))]) hx hb dX12_ruled_63 hl (k := 1) rfl (iZ_add v4_30 1) (by decide) rfl (fun ls hl => ?_)
              refine lv_goto (tgt := 30) hx hb dX12_ruled_66 (by decide) ?_
              exact ih30  z_23 (v4_30 + 1) _ _ _ (by omega) (show (0 ≤ (v4_30 + 1) ∧ (v4_30 + 1) ≤ (gz Af 0) + 1) from ⟨by omega, by omega⟩) (show -2147483648 ≤ z_23 ∧ z_23 < 2147483648 from (by omega)) (hP.sub [0, 1, 2, 3, 4, 5] rfl) (hD.sub [0, 1, 2, 3, 4, 5] rfl rfl) hS (lv_sub hl [0, 1, 2, 3, 4] rfl)
            ·
              have c_22 := (zeq (x := iZ z_21) (y := iZ x1) rfl rfl ⟨by omega, by omega⟩ ⟨by omega, by omega⟩).mp c_22
              refine lv_iconst (v := iZ 1) hx hb dX12_ruled_53 (by decide) ?_
              refine lv_iload hx hb dX12_ruled_54 (lv_at hl 0 rfl) ?_
              refine lv_ishl hx hb dX12_ruled_56 ?_
              refine lv_topi (fun x_26 ex_26 => ?_)
              obtain ⟨z_25, hz_25, hz_25a, hz_25b⟩ := i32_z x_26
              subst hz_25
              refine lv_goto (tgt := 61) hx hb dX12_ruled_57 (by decide) ?_
              refine lv_ior hx hb dX12_ruled_61 ?_
              refine lv_topi (fun x_28 ex_28 => ?_)
              obtain ⟨z_27, hz_27, hz_27a, hz_27b⟩ := i32_z x_28
              subst hz_27
              refine lv_istore_n (lv' := [(3, .int (iZ z_27)), (4, .int (iZ v4_30)), (0, .ref hm), (1, .int (iZ x1)), (2, .int (iZ x2))]) hx hb dX12_ruled_62 rfl hl (by decide) rfl (fun ls hl => ?_)
              refine lv_iinc (v := iZ (v4_30 + 1)) (lv' := [(4, .int (iZ (v4_30 + 1))), (3, .int (iZ z_27)), (0, .ref hm), (1, .int (iZ x1)), (2, .int (iZ x2))]) hx hb dX12_ruled_63 hl (k := 1) rfl (iZ_add v4_30 1) (by decide) rfl (fun ls hl => ?_)
              refine lv_goto (tgt := 30) hx hb dX12_ruled_66 (by decide) ?_
              exact ih30  z_27 (v4_30 + 1) _ _ _ (by omega) (show (0 ≤ (v4_30 + 1) ∧ (v4_30 + 1) ≤ (gz Af 0) + 1) from ⟨by omega, by omega⟩) (show -2147483648 ≤ z_27 ∧ z_27 < 2147483648 from (by omega)) (hP.sub [0, 1, 2, 3, 4, 5] rfl) (hD.sub [0, 1, 2, 3, 4, 5] rfl rfl) hS (lv_sub hl [0, 1, 2, 3, 4] rfl)
      exact HL30 10 0 0 _ _ _ (by omega) (show (0 ≤ 0 ∧ 0 ≤ (gz Af 0) + 1) from ⟨by omega, by omega⟩) (show -2147483648 ≤ 0 ∧ 0 < 2147483648 from (by omega)) (hP.sub [0, 1, 2, 3, 4, 5] rfl) (hD.sub [0, 1, 2, 3, 4, 5] rfl rfl) hS (lv_sub hl [0, 1, 2, 3, 4] rfl)
    ·
      subst qz_3
      refine lv_if_ne (tgt := 21) hx hb dX12_ruled_12 (by decide) (fun c => absurd (by decide) c) (fun _ => ?_)
      refine lv_aload_n hx hb dX12_ruled_15 rfl (lv_at hl 0 rfl) ?_
      refine lv_iconst (v := iZ 1) hx hb dX12_ruled_16 (by decide) ?_
      refine CWV (As := [.int (iZ 1)]) (rest := []) (wc := [(hm, .inr (12, [.ref Ma, .ref Mn, .int (iZ Mst), .long Mtp, .long Mbt, .ref Ms, .ref My, .ref Mt, .ref Mp, .ref Mx, .int (iZ Mtd), .int (iZ Msz), .int (iZ Mtk), .int (iZ Mfr), .int (iZ Men), .int (iZ Mva), .int (iZ Mfk), .int (iZ Mfp), .int (iZ Mfs), .int (iZ Mse), .int (iZ Mlt), .ref Mo, .int (iZ Mdp), .int (iZ Mct), .ref Mk, .ref Ml, .ref Mb, .ref Mh, .ref Mc, .int (iZ Mdr), .int (iZ Mrs), .ref Mz, .ref Mr, .ref Mq, .int (iZ Mit), .int (iZ Mmk)]))]) (wr := [(Ma, .inl (k 1, 5340, .inl Af)), (Mk, .inl (k 1, 6, .inl Kf)), (Ml, .inl (k 1, 6, .inl Lf)), (Mb, .inl (k 1, 6, .inl Bf)), (Mh, .inl (k 1, 120, .inl Hf))]) hx hb hml hown hts hKK hP hD hS hA (m_refuse l D k hm Ma Mn Ms My Mt Mp Mx Mo Mk Ml Mb Mh Mc Mz Mr Mq Mst Mtd Msz Mtk Mfr Men Mva Mfk Mfp Mfs Mse Mlt Mdp Mct Mdr Mrs Mit Mmk Mtp Mbt 1) ci_X12_refuse qm_X12_81 ⟨Nat.le_of_ble_eq_true rfl, Nat.le_of_ble_eq_true rfl⟩ ⟨Nat.le_of_ble_eq_true rfl, Nat.le_of_ble_eq_true rfl⟩ [0] [1, 2, 3, 4, 5] rfl rfl rfl rfl rfl (by decide) 0 rfl rfl rfl hl.1 rfl (Nat.le_of_ble_eq_true rfl) dX12_ruled_17 (fun u_30 H locs hφ hP hD hS => ?_)
      obtain ⟨I_31, L_32, F_33, G_34⟩ := u_30
      refine W.eq (g2 := F0 m 20 ls [.int (iZ (-1))]) rfl ?_
      exact EWi hx hb hr hlocks hS (fun i => [(-1), 1].getD i 0, fun i => [0].getD i 0, fun i => [Kf, Lf, Bf, Hf].getD i (fun _ => 0), fun i => [].getD i (fun _ => 0)) rfl (show rgI Hf 0 1000000 120 from rgH) (hP.sub [5, 0, 1, 2, 3, 4] rfl) (hD.sub [5, 0, 1, 2, 3, 4] rfl rfl) dX12_ruled_20
  ·
    subst qz_1
    refine lv_if_eq (tgt := 15) hx hb dX12_ruled_5 (by decide) (fun _ => ?_) (fun c => absurd (by decide) c)
    refine lv_aload_n hx hb dX12_ruled_15 rfl (lv_at hl 0 rfl) ?_
    refine lv_iconst (v := iZ 1) hx hb dX12_ruled_16 (by decide) ?_
    refine CWV (As := [.int (iZ 1)]) (rest := []) (wc := [(hm, .inr (12, [.ref Ma, .ref Mn, .int (iZ Mst), .long Mtp, .long Mbt, .ref Ms, .ref My, .ref Mt, .ref Mp, .ref Mx, .int (iZ Mtd), .int (iZ Msz), .int (iZ Mtk), .int (iZ Mfr), .int (iZ Men), .int (iZ Mva), .int (iZ Mfk), .int (iZ Mfp), .int (iZ Mfs), .int (iZ Mse), .int (iZ Mlt), .ref Mo, .int (iZ Mdp), .int (iZ Mct), .ref Mk, .ref Ml, .ref Mb, .ref Mh, .ref Mc, .int (iZ Mdr), .int (iZ Mrs), .ref Mz, .ref Mr, .ref Mq, .int (iZ Mit), .int (iZ Mmk)]))]) (wr := [(Ma, .inl (k 1, 5340, .inl Af)), (Mk, .inl (k 1, 6, .inl Kf)), (Ml, .inl (k 1, 6, .inl Lf)), (Mb, .inl (k 1, 6, .inl Bf)), (Mh, .inl (k 1, 120, .inl Hf))]) hx hb hml hown hts hKK hP hD hS hA (m_refuse l D k hm Ma Mn Ms My Mt Mp Mx Mo Mk Ml Mb Mh Mc Mz Mr Mq Mst Mtd Msz Mtk Mfr Men Mva Mfk Mfp Mfs Mse Mlt Mdp Mct Mdr Mrs Mit Mmk Mtp Mbt 1) ci_X12_refuse qm_X12_81 ⟨Nat.le_of_ble_eq_true rfl, Nat.le_of_ble_eq_true rfl⟩ ⟨Nat.le_of_ble_eq_true rfl, Nat.le_of_ble_eq_true rfl⟩ [0] [1, 2, 3, 4, 5] rfl rfl rfl rfl rfl (by decide) 0 rfl rfl rfl hl.1 rfl (Nat.le_of_ble_eq_true rfl) dX12_ruled_17 (fun u_37 H locs hφ hP hD hS => ?_)
    obtain ⟨I_38, L_39, F_40, G_41⟩ := u_37
    refine W.eq (g2 := F0 m 20 ls [.int (iZ (-1))]) rfl ?_
    exact EWi hx hb hr hlocks hS (fun i => [(-1), 1].getD i 0, fun i => [0].getD i 0, fun i => [Kf, Lf, Bf, Hf].getD i (fun _ => 0), fun i => [].getD i (fun _ => 0)) rfl (show rgI Hf 0 1000000 120 from rgH) (hP.sub [5, 0, 1, 2, 3, 4] rfl) (hD.sub [5, 0, 1, 2, 3, 4] rfl rfl) dX12_ruled_20
set_option maxHeartbeats 4000000 in
set_option maxRecDepth 100000 in
theorem q_before (l : Launch) (D : va_G) (k : Nat → ClassId) (hm : Nat) (Ma : Nat) (Mn : Nat) (Ms : Nat) (My : Nat) (Mt : Nat) (Mp : Nat) (Mx : Nat) (Mo : Nat) (Mk : Nat) (Ml : Nat) (Mb : Nat) (Mh : Nat) (Mc : Nat) (Mz : Nat) (Mr : Nat) (Mq : Nat) (Mst : Int) (Mtd : Int) (Msz : Int) (Mtk : Int) (Mfr : Int) (Men : Int) (Mva : Int) (Mfk : Int) (Mfp : Int) (Mfs : Int) (Mse : Int) (Mlt : Int) (Mdp : Int) (Mct : Int) (Mdr : Int) (Mrs : Int) (Mit : Int) (Mmk : Int) (Mtp : Int64) (Mbt : Int64) (Af : Nat → Int32) (Kf : Nat → Int32) (Lf : Nat → Int32) (Bf : Nat → Int32) (Hf : Nat → Int32) (x1 : Int) (x2 : Int) (x3 : Int) (hM : M0 Af) (rgH : rgI Hf 0 1000000 120) (h9x1 : -2147483648 ≤ x1 ∧ x1 < 2147483648) (h9x2 : -2147483648 ≤ x2 ∧ x2 < 2147483648) (h9x3 : -2147483648 ≤ x3 ∧ x3 < 2147483648) : WD (σ := ((Nat → Int) × (Nat → Int64) × (Nat → Nat → Int32) × (Nat → Nat → Int64))) l yX12_before cX12_before 6 (some .int) 8 0 0 D k [.ref hm, .int (iZ x1), .int (iZ x2), .int (iZ x3)] [(hm, .inr (12, [.ref Ma, .ref Mn, .int (iZ Mst), .long Mtp, .long Mbt, .ref Ms, .ref My, .ref Mt, .ref Mp, .ref Mx, .int (iZ Mtd), .int (iZ Msz), .int (iZ Mtk), .int (iZ Mfr), .int (iZ Men), .int (iZ Mva), .int (iZ Mfk), .int (iZ Mfp), .int (iZ Mfs), .int (iZ Mse), .int (iZ Mlt), .ref Mo, .int (iZ Mdp), .int (iZ Mct), .ref Mk, .ref Ml, .ref Mb, .ref Mh, .ref Mc, .int (iZ Mdr), .int (iZ Mrs), .ref Mz, .ref Mr, .ref Mq, .int (iZ Mit), .int (iZ Mmk)])), (Ma, .inl (k 1, 5340, .inl Af)), (Mk, .inl (k 1, 6, .inl Kf)), (Ml, .inl (k 1, 6, .inl Lf)), (Mb, .inl (k 1, 6, .inl Bf)), (Mh, .inl (k 1, 120, .inl Hf))] (fun u => some (.int (iZ (u.1 0)))) (fun u => rgI (u.2.2.1 3) 0 1000000 120) (fun u => [(hm, .inr (12, [.ref Ma, .ref Mn, .int (iZ (u.1 1)), .long Mtp, .long Mbt, .ref Ms, .ref My, .ref Mt, .ref Mp, .ref Mx, .int (iZ Mtd), .int (iZ Msz), .int (iZ Mtk), .int (iZ Mfr), .int (iZ Men), .int (iZ Mva), .int (iZ Mfk), .int (iZ Mfp), .int (iZ Mfs), .int (iZ Mse), .int (iZ Mlt), .ref Mo, .int (iZ Mdp), .int (iZ Mct), .ref Mk, .ref Ml, .ref Mb, .ref Mh, .ref Mc, .int (iZ Mdr), .int (iZ Mrs), .ref Mz, .ref Mr, .ref Mq, .int (iZ Mit), .int (iZ Mmk)])), (Ma, .inl (k 1, 5340, .inl Af)), (Mk, .inl (k 1, 6, .inl (u.2.2.1 0))), (Ml, .inl (k 1, 6, .inl (u.2.2.1 1))), (Mb, .inl (k 1, 6, .inl (u.2.2.1 2))), (Mh, .inl (k 1, 120, .inl (u.2.2.1 3)))]) := by
  refine MW (by decide) (Nat.le_of_ble_eq_true rfl) (fun p e s m below meth c ls A hx hb hml hr hlocks hin hts hown hKK hP hD hS hA hl => ?_)
  have hK := hKK.1
  have hl : lv_has ls 6 [(0, .ref hm), (1, .int (iZ x1)), (2, .int (iZ x2)), (3, .int (iZ x3))] := hl
  obtain ⟨m0, m1, m3, m4, m5, mF, mO, mS⟩ := id hM
  refine lv_aload_n hx hb dX12_before_0 rfl (lv_at hl 0 rfl) ?_
  refine lv_iload_n hx hb dX12_before_1 rfl (lv_at hl 1 rfl) ?_
  refine lv_iload_n hx hb dX12_before_2 rfl (lv_at hl 2 rfl) ?_
  refine CPV (As := [.int (iZ x1), .int (iZ x2)]) (rest := []) hx hb hml hown hts hKK (hP.sub (ws' := [(hm, .inr (12, [.ref Ma, .ref Mn, .int (iZ Mst), .long Mtp, .long Mbt, .ref Ms, .ref My, .ref Mt, .ref Mp, .ref Mx, .int (iZ Mtd), .int (iZ Msz), .int (iZ Mtk), .int (iZ Mfr), .int (iZ Men), .int (iZ Mva), .int (iZ Mfk), .int (iZ Mfp), .int (iZ Mfs), .int (iZ Mse), .int (iZ Mlt), .ref Mo, .int (iZ Mdp), .int (iZ Mct), .ref Mk, .ref Ml, .ref Mb, .ref Mh, .ref Mc, .int (iZ Mdr), .int (iZ Mrs), .ref Mz, .ref Mr, .ref Mq, .int (iZ Mit), .int (iZ Mmk)])), (Ma, .inl (k 1, 5340, .inl Af))]) [0, 1] rfl) (m_areOrders l D k ([.ref Ma, .ref Mn, .int (iZ Mst), .long Mtp, .long Mbt, .ref Ms, .ref My, .ref Mt, .ref Mp, .ref Mx, .int (iZ Mtd), .int (iZ Msz), .int (iZ Mtk), .int (iZ Mfr), .int (iZ Men), .int (iZ Mva), .int (iZ Mfk), .int (iZ Mfp), .int (iZ Mfs), .int (iZ Mse), .int (iZ Mlt), .ref Mo, .int (iZ Mdp), .int (iZ Mct), .ref Mk, .ref Ml, .ref Mb, .ref Mh, .ref Mc, .int (iZ Mdr), .int (iZ Mrs), .ref Mz, .ref Mr, .ref Mq, .int (iZ Mit), .int (iZ Mmk)]) hm Ma Af x1 x2 rfl hM ⟨by omega, by omega⟩ ⟨by omega, by omega⟩) ci_X12_areOrders qm_X12_336 ⟨Nat.le_of_ble_eq_true rfl, Nat.le_of_ble_eq_true rfl⟩ ⟨Nat.le_of_ble_eq_true rfl, Nat.le_of_ble_eq_true rfl⟩ 0 rfl rfl rfl hl.1 rfl (Nat.le_of_ble_eq_true rfl) dX12_before_3 (fun z_1 hz_1 => ?_)
  rcases hz_1 with ⟨qz_1, hz_1⟩ | ⟨qz_1, hz_1⟩
  ·
    subst qz_1
    refine lv_if_eq (tgt := 17) hx hb dX12_before_6 (by decide) (fun c => absurd c (by decide)) (fun _ => ?_)
    refine lv_aload_n hx hb dX12_before_9 rfl (lv_at hl 0 rfl) ?_
    refine lv_iload_n hx hb dX12_before_10 rfl (lv_at hl 3 rfl) ?_
    refine CPV (As := [.int (iZ x3)]) (rest := []) hx hb hml hown hts hKK (hP.sub (ws' := [(hm, .inr (12, [.ref Ma, .ref Mn, .int (iZ Mst), .long Mtp, .long Mbt, .ref Ms, .ref My, .ref Mt, .ref Mp, .ref Mx, .int (iZ Mtd), .int (iZ Msz), .int (iZ Mtk), .int (iZ Mfr), .int (iZ Men), .int (iZ Mva), .int (iZ Mfk), .int (iZ Mfp), .int (iZ Mfs), .int (iZ Mse), .int (iZ Mlt), .ref Mo, .int (iZ Mdp), .int (iZ Mct), .ref Mk, .ref Ml, .ref Mb, .ref Mh, .ref Mc, .int (iZ Mdr), .int (iZ Mrs), .ref Mz, .ref Mr, .ref Mq, .int (iZ Mit), .int (iZ Mmk)])), (Ma, .inl (k 1, 5340, .inl Af))]) [0, 1] rfl) (m_isRock l D k ([.ref Ma, .ref Mn, .int (iZ Mst), .long Mtp, .long Mbt, .ref Ms, .ref My, .ref Mt, .ref Mp, .ref Mx, .int (iZ Mtd), .int (iZ Msz), .int (iZ Mtk), .int (iZ Mfr), .int (iZ Men), .int (iZ Mva), .int (iZ Mfk), .int (iZ Mfp), .int (iZ Mfs), .int (iZ Mse), .int (iZ Mlt), .ref Mo, .int (iZ Mdp), .int (iZ Mct), .ref Mk, .ref Ml, .ref Mb, .ref Mh, .ref Mc, .int (iZ Mdr), .int (iZ Mrs), .ref Mz, .ref Mr, .ref Mq, .int (iZ Mit), .int (iZ Mmk)]) hm Ma Af x3 rfl hM ⟨by omega, by omega⟩) ci_X12_isRock qm_X12_243 ⟨Nat.le_of_ble_eq_true rfl, Nat.le_of_ble_eq_true rfl⟩ ⟨Nat.le_of_ble_eq_true rfl, Nat.le_of_ble_eq_true rfl⟩ 0 rfl rfl rfl hl.1 rfl (Nat.le_of_ble_eq_true rfl) dX12_before_11 (fun z_3 hz_3 => ?_)
    rcases hz_3 with ⟨qz_3, hz_3⟩ | ⟨qz_3, hz_3⟩
    ·
      subst qz_3
      refine lv_if_ne (tgt := 23) hx hb dX12_before_14 (by decide) (fun _ => ?_) (fun c => absurd c (by decide))
      refine lv_aload_n hx hb dX12_before_23 rfl (lv_at hl 0 rfl) ?_
      refine CWV (As := []) (rest := []) (wc := [(hm, .inr (12, [.ref Ma, .ref Mn, .int (iZ Mst), .long Mtp, .long Mbt, .ref Ms, .ref My, .ref Mt, .ref Mp, .ref Mx, .int (iZ Mtd), .int (iZ Msz), .int (iZ Mtk), .int (iZ Mfr), .int (iZ Men), .int (iZ Mva), .int (iZ Mfk), .int (iZ Mfp), .int (iZ Mfs), .int (iZ Mse), .int (iZ Mlt), .ref Mo, .int (iZ Mdp), .int (iZ Mct), .ref Mk, .ref Ml, .ref Mb, .ref Mh, .ref Mc, .int (iZ Mdr), .int (iZ Mrs), .ref Mz, .ref Mr, .ref Mq, .int (iZ Mit), .int (iZ Mmk)])), (Ma, .inl (k 1, 5340, .inl Af)), (Mk, .inl (k 1, 6, .inl Kf)), (Ml, .inl (k 1, 6, .inl Lf)), (Mb, .inl (k 1, 6, .inl Bf)), (Mh, .inl (k 1, 120, .inl Hf))]) (wr := []) hx hb hml hown hts hKK hP hD hS hA (m_laysOrders l D k hm Ma Mn Ms My Mt Mp Mx Mo Mk Ml Mb Mh Mc Mz Mr Mq Mst Mtd Msz Mtk Mfr Men Mva Mfk Mfp Mfs Mse Mlt Mdp Mct Mdr Mrs Mit Mmk Mtp Mbt Af Kf Lf Bf Hf hM rgH) ci_X12_laysOrders qm_X12_330 ⟨Nat.le_of_ble_eq_true rfl, Nat.le_of_ble_eq_true rfl⟩ ⟨Nat.le_of_ble_eq_true rfl, Nat.le_of_ble_eq_true rfl⟩ [0, 1, 2, 3, 4, 5] [] rfl rfl rfl rfl rfl (by decide) 0 rfl rfl rfl hl.1 rfl (Nat.le_of_ble_eq_true rfl) dX12_before_24 (fun u_5 H locs hφ hP hD hS => ?_)
      obtain ⟨I_6, L_7, F_8, G_9⟩ := u_5
      have p_11 : rgI (F_8 3) 0 1000000 120 := hφ
      refine W.eq (g2 := F0 m 27 ls []) rfl ?_
      refine lv_aload_n hx hb dX12_before_27 rfl (lv_at hl 0 rfl) ?_
      refine va_get (D := D) (ci := 12) (v := .ref Mh) (C := RX12) (T := TX12) (N := 36) hx hb hts iX12 hown hK hP 0 rfl rfl 27 (by decide) (hts _ qf_X12_56) (fun _ h => h) rfl dX12_before_28 ?_
      refine lv_bipush (v := iZ 6) hx hb dX12_before_31 (by decide) ?_
      refine lv_iload_n hx hb dX12_before_33 rfl (lv_at hl 1 rfl) ?_
      refine lv_imul hx hb dX12_before_34 ?_
      refine lv_topi (fun x_12 ex_12 => ?_)
      obtain rfl : x_12 = iZ (6 * x1) := ex_12.trans (iZ_mul 6 x1)
      refine lv_iload_n hx hb dX12_before_35 rfl (lv_at hl 3 rfl) ?_
      refine lv_iadd hx hb dX12_before_36 ?_
      refine lv_topi (fun x_13 ex_13 => ?_)
      obtain rfl : x_13 = iZ ((6 * x1) + x3) := ex_13.trans (iZ_add (6 * x1) x3)
      refine va_iald hx hb hK hP 5 1 rfl rfl (zin (e := ((6 * x1) + x3)) (n := 120) ⟨by omega, by omega⟩ (by decide)) dX12_before_37 ?_
      refine lv_topi (fun x_14 ex_14 => ?_)
      obtain rfl : x_14 = iZ (gz (F_8 3) ((6 * x1) + x3)) := ex_14.trans (gz_eq ⟨by omega, by omega⟩)
      have h_15 := p_11 ((6 * x1) + x3) (by omega) (by omega)
      refine lv_istore (lv' := [(4, .int (iZ (gz (F_8 3) ((6 * x1) + x3)))), (0, .ref hm), (1, .int (iZ x1)), (2, .int (iZ x2)), (3, .int (iZ x3))]) hx hb dX12_before_38 hl (by decide) rfl (fun ls hl => ?_)
      refine lv_aload_n hx hb dX12_before_40 rfl (lv_at hl 1 rfl) ?_
      refine va_get (D := D) (ci := 12) (v := .ref Mh) (C := RX12) (T := TX12) (N := 36) hx hb hts iX12 hown hK hP 0 rfl rfl 27 (by decide) (hts _ qf_X12_56) (fun _ h => h) rfl dX12_before_41 ?_
      refine lv_bipush (v := iZ 6) hx hb dX12_before_44 (by decide) ?_
      refine lv_iload_n hx hb dX12_before_46 rfl (lv_at hl 3 rfl) ?_
      refine lv_imul hx hb dX12_before_47 ?_
      refine lv_topi (fun x_16 ex_16 => ?_)
      obtain rfl : x_16 = iZ (6 * x2) := ex_16.trans (iZ_mul 6 x2)
      refine lv_iload_n hx hb dX12_before_48 rfl (lv_at hl 4 rfl) ?_
      refine lv_iadd hx hb dX12_before_49 ?_
      refine lv_topi (fun x_17 ex_17 => ?_)
      obtain rfl : x_17 = iZ ((6 * x2) + x3) := ex_17.trans (iZ_add (6 * x2) x3)
      refine va_iald hx hb hK hP 5 1 rfl rfl (zin (e := ((6 * x2) + x3)) (n := 120) ⟨by omega, by omega⟩ (by decide)) dX12_before_50 ?_
      refine lv_topi (fun x_18 ex_18 => ?_)
      obtain rfl : x_18 = iZ (gz (F_8 3) ((6 * x2) + x3)) := ex_18.trans (gz_eq ⟨by omega, by omega⟩)
      have h_19 := p_11 ((6 * x2) + x3) (by omega) (by omega)
      refine lv_istore (lv' := [(5, .int (iZ (gz (F_8 3) ((6 * x2) + x3)))), (4, .int (iZ (gz (F_8 3) ((6 * x1) + x3)))), (0, .ref hm), (1, .int (iZ x1)), (2, .int (iZ x2)), (3, .int (iZ x3))]) hx hb dX12_before_51 hl (by decide) rfl (fun ls hl => ?_)
      refine lv_iload hx hb dX12_before_53 (lv_at hl 1 rfl) ?_
      refine lv_ldc (own := RX12) (v := 1000000) hx hb hown (hts _ qk_X12_88) dX12_before_55 ?_
      refine W.eq (g2 := F0 m 57 ls [.int (iZ 1000000), .int (iZ (gz (F_8 3) ((6 * x1) + x3)))]) rfl ?_
      refine lv_icmp_ne (tgt := 76) hx hb dX12_before_57 (by decide) (fun c_20 => ?_) (fun c_20 => ?_)
      ·
        have c_20 := mt (zeq (x := iZ (gz (F_8 3) ((6 * x1) + x3))) (y := iZ 1000000) rfl rfl ⟨by omega, by omega⟩ ⟨by omega, by omega⟩).mpr c_20
        refine lv_aload_n hx hb dX12_before_76 rfl (lv_at hl 2 rfl) ?_
        refine lv_iload hx hb dX12_before_77 (lv_at hl 1 rfl) ?_
        refine lv_iload hx hb dX12_before_79 (lv_at hl 0 rfl) ?_
        refine lv_icmp_ge (tgt := 88) hx hb dX12_before_81 (by decide) (fun c_21 => ?_) (fun c_21 => ?_)
        ·
          have c_21 := (zle (x := iZ (gz (F_8 3) ((6 * x2) + x3))) (y := iZ (gz (F_8 3) ((6 * x1) + x3))) rfl rfl ⟨by omega, by omega⟩ ⟨by omega, by omega⟩).mp c_21
          refine lv_iload hx hb dX12_before_88 (lv_at hl 1 rfl) ?_
          refine lv_iload hx hb dX12_before_90 (lv_at hl 0 rfl) ?_
          refine lv_icmp_le (tgt := 99) hx hb dX12_before_92 (by decide) (fun c_22 => ?_) (fun c_22 => ?_)
          ·
            have c_22 := (zle (x := iZ (gz (F_8 3) ((6 * x1) + x3))) (y := iZ (gz (F_8 3) ((6 * x2) + x3))) rfl rfl ⟨by omega, by omega⟩ ⟨by omega, by omega⟩).mp c_22
            refine lv_iconst (v := iZ 2) hx hb dX12_before_99 (by decide) ?_
            refine CWV (As := [.int (iZ 2)]) (rest := []) (wc := [(hm, .inr (12, [.ref Ma, .ref Mn, .int (iZ Mst), .long Mtp, .long Mbt, .ref Ms, .ref My, .ref Mt, .ref Mp, .ref Mx, .int (iZ Mtd), .int (iZ Msz), .int (iZ Mtk), .int (iZ Mfr), .int (iZ Men), .int (iZ Mva), .int (iZ Mfk), .int (iZ Mfp), .int (iZ Mfs), .int (iZ Mse), .int (iZ Mlt), .ref Mo, .int (iZ Mdp), .int (iZ Mct), .ref Mk, .ref Ml, .ref Mb, .ref Mh, .ref Mc, .int (iZ Mdr), .int (iZ Mrs), .ref Mz, .ref Mr, .ref Mq, .int (iZ Mit), .int (iZ Mmk)]))]) (wr := [(Ma, .inl (k 1, 5340, .inl Af)), (Mk, .inl (k 1, 6, .inl (F_8 0))), (Ml, .inl (k 1, 6, .inl (F_8 1))), (Mb, .inl (k 1, 6, .inl (F_8 2))), (Mh, .inl (k 1, 120, .inl (F_8 3)))]) hx hb hml hown hts hKK hP hD hS hA (m_gives l D k hm Ma Mn Ms My Mt Mp Mx Mo Mk Ml Mb Mh Mc Mz Mr Mq Mst Mtd Msz Mtk Mfr Men Mva Mfk Mfp Mfs Mse Mlt Mdp Mct Mdr Mrs Mit Mmk Mtp Mbt 2) ci_X12_gives qm_X12_85 ⟨Nat.le_of_ble_eq_true rfl, Nat.le_of_ble_eq_true rfl⟩ ⟨Nat.le_of_ble_eq_true rfl, Nat.le_of_ble_eq_true rfl⟩ [0] [1, 2, 3, 4, 5] rfl rfl rfl rfl rfl (by decide) 0 rfl rfl rfl hl.1 rfl (Nat.le_of_ble_eq_true rfl) dX12_before_100 (fun u_23 H locs hφ hP hD hS => ?_)
            obtain ⟨I_24, L_25, F_26, G_27⟩ := u_23
            refine W.eq (g2 := F0 m 103 ls [.int (iZ 2)]) rfl ?_
            exact EWi hx hb hr hlocks hS (fun i => [2, 0].getD i 0, fun i => [0].getD i 0, fun i => [(F_8 0), (F_8 1), (F_8 2), (F_8 3)].getD i (fun _ => 0), fun i => [].getD i (fun _ => 0)) rfl (show rgI (F_8 3) 0 1000000 120 from p_11) (hP.sub [5, 0, 1, 2, 3, 4] rfl) (hD.sub [5, 0, 1, 2, 3, 4] rfl rfl) dX12_before_103
          ·
            have c_22 := mt (zle (x := iZ (gz (F_8 3) ((6 * x1) + x3))) (y := iZ (gz (F_8 3) ((6 * x2) + x3))) rfl rfl ⟨by omega, by omega⟩ ⟨by omega, by omega⟩).mpr c_22
            refine lv_iconst (v := iZ 1) hx hb dX12_before_95 (by decide) ?_
            refine lv_goto (tgt := 100) hx hb dX12_before_96 (by decide) ?_
            refine CWV (As := [.int (iZ 1)]) (rest := []) (wc := [(hm, .inr (12, [.ref Ma, .ref Mn, .int (iZ Mst), .long Mtp, .long Mbt, .ref Ms, .ref My, .ref Mt, .ref Mp, .ref Mx, .int (iZ Mtd), .int (iZ Msz), .int (iZ Mtk), .int (iZ Mfr), .int (iZ Men), .int (iZ Mva), .int (iZ Mfk), .int (iZ Mfp), .int (iZ Mfs), .int (iZ Mse), .int (iZ Mlt), .ref Mo, .int (iZ Mdp), .int (iZ Mct), .ref Mk, .ref Ml, .ref Mb, .ref Mh, .ref Mc, .int (iZ Mdr), .int (iZ Mrs), .ref Mz, .ref Mr, .ref Mq, .int (iZ Mit), .int (iZ Mmk)]))]) (wr := [(Ma, .inl (k 1, 5340, .inl Af)), (Mk, .inl (k 1, 6, .inl (F_8 0))), (Ml, .inl (k 1, 6, .inl (F_8 1))), (Mb, .inl (k 1, 6, .inl (F_8 2))), (Mh, .inl (k 1, 120, .inl (F_8 3)))]) hx hb hml hown hts hKK hP hD hS hA (m_gives l D k hm Ma Mn Ms My Mt Mp Mx Mo Mk Ml Mb Mh Mc Mz Mr Mq Mst Mtd Msz Mtk Mfr Men Mva Mfk Mfp Mfs Mse Mlt Mdp Mct Mdr Mrs Mit Mmk Mtp Mbt 1) ci_X12_gives qm_X12_85 ⟨Nat.le_of_ble_eq_true rfl, Nat.le_of_ble_eq_true rfl⟩ ⟨Nat.le_of_ble_eq_true rfl, Nat.le_of_ble_eq_true rfl⟩ [0] [1, 2, 3, 4, 5] rfl rfl rfl rfl rfl (by decide) 0 rfl rfl rfl hl.1 rfl (Nat.le_of_ble_eq_true rfl) dX12_before_100 (fun u_29 H locs hφ hP hD hS => ?_)
            obtain ⟨I_30, L_31, F_32, G_33⟩ := u_29
            refine W.eq (g2 := F0 m 103 ls [.int (iZ 1)]) rfl ?_
            exact EWi hx hb hr hlocks hS (fun i => [1, 0].getD i 0, fun i => [0].getD i 0, fun i => [(F_8 0), (F_8 1), (F_8 2), (F_8 3)].getD i (fun _ => 0), fun i => [].getD i (fun _ => 0)) rfl (show rgI (F_8 3) 0 1000000 120 from p_11) (hP.sub [5, 0, 1, 2, 3, 4] rfl) (hD.sub [5, 0, 1, 2, 3, 4] rfl rfl) dX12_before_103
        ·
          have c_21 := mt (zle (x := iZ (gz (F_8 3) ((6 * x2) + x3))) (y := iZ (gz (F_8 3) ((6 * x1) + x3))) rfl rfl ⟨by omega, by omega⟩ ⟨by omega, by omega⟩).mpr c_21
          refine lv_iconst (v := iZ 0) hx hb dX12_before_84 (by decide) ?_
          refine lv_goto (tgt := 100) hx hb dX12_before_85 (by decide) ?_
          refine CWV (As := [.int (iZ 0)]) (rest := []) (wc := [(hm, .inr (12, [.ref Ma, .ref Mn, .int (iZ Mst), .long Mtp, .long Mbt, .ref Ms, .ref My, .ref Mt, .ref Mp, .ref Mx, .int (iZ Mtd), .int (iZ Msz), .int (iZ Mtk), .int (iZ Mfr), .int (iZ Men), .int (iZ Mva), .int (iZ Mfk), .int (iZ Mfp), .int (iZ Mfs), .int (iZ Mse), .int (iZ Mlt), .ref Mo, .int (iZ Mdp), .int (iZ Mct), .ref Mk, .ref Ml, .ref Mb, .ref Mh, .ref Mc, .int (iZ Mdr), .int (iZ Mrs), .ref Mz, .ref Mr, .ref Mq, .int (iZ Mit), .int (iZ Mmk)]))]) (wr := [(Ma, .inl (k 1, 5340, .inl Af)), (Mk, .inl (k 1, 6, .inl (F_8 0))), (Ml, .inl (k 1, 6, .inl (F_8 1))), (Mb, .inl (k 1, 6, .inl (F_8 2))), (Mh, .inl (k 1, 120, .inl (F_8 3)))]) hx hb hml hown hts hKK hP hD hS hA (m_gives l D k hm Ma Mn Ms My Mt Mp Mx Mo Mk Ml Mb Mh Mc Mz Mr Mq Mst Mtd Msz Mtk Mfr Men Mva Mfk Mfp Mfs Mse Mlt Mdp Mct Mdr Mrs Mit Mmk Mtp Mbt 0) ci_X12_gives qm_X12_85 ⟨Nat.le_of_ble_eq_true rfl, Nat.le_of_ble_eq_true rfl⟩ ⟨Nat.le_of_ble_eq_true rfl, Nat.le_of_ble_eq_true rfl⟩ [0] [1, 2, 3, 4, 5] rfl rfl rfl rfl rfl (by decide) 0 rfl rfl rfl hl.1 rfl (Nat.le_of_ble_eq_true rfl) dX12_before_100 (fun u_35 H locs hφ hP hD hS => ?_)
          obtain ⟨I_36, L_37, F_38, G_39⟩ := u_35
          refine W.eq (g2 := F0 m 103 ls [.int (iZ 0)]) rfl ?_
          exact EWi hx hb hr hlocks hS (fun i => [0, 0].getD i 0, fun i => [0].getD i 0, fun i => [(F_8 0), (F_8 1), (F_8 2), (F_8 3)].getD i (fun _ => 0), fun i => [].getD i (fun _ => 0)) rfl (show rgI (F_8 3) 0 1000000 120 from p_11) (hP.sub [5, 0, 1, 2, 3, 4] rfl) (hD.sub [5, 0, 1, 2, 3, 4] rfl rfl) dX12_before_103
      ·
        have c_20 := (zeq (x := iZ (gz (F_8 3) ((6 * x1) + x3))) (y := iZ 1000000) rfl rfl ⟨by omega, by omega⟩ ⟨by omega, by omega⟩).mp c_20
        refine lv_iload hx hb dX12_before_60 (lv_at hl 0 rfl) ?_
        refine lv_ldc (own := RX12) (v := 1000000) hx hb hown (hts _ qk_X12_88) dX12_before_62 ?_
        refine W.eq (g2 := F0 m 64 ls [.int (iZ 1000000), .int (iZ (gz (F_8 3) ((6 * x2) + x3)))]) rfl ?_
        refine lv_icmp_ne (tgt := 76) hx hb dX12_before_64 (by decide) (fun c_41 => ?_) (fun c_41 => ?_)
        ·
          have c_41 := mt (zeq (x := iZ (gz (F_8 3) ((6 * x2) + x3))) (y := iZ 1000000) rfl rfl ⟨by omega, by omega⟩ ⟨by omega, by omega⟩).mpr c_41
          refine lv_aload_n hx hb dX12_before_76 rfl (lv_at hl 2 rfl) ?_
          refine lv_iload hx hb dX12_before_77 (lv_at hl 1 rfl) ?_
          refine lv_iload hx hb dX12_before_79 (lv_at hl 0 rfl) ?_
          refine lv_icmp_ge (tgt := 88) hx hb dX12_before_81 (by decide) (fun c_42 => ?_) (fun c_42 => ?_)
          ·
            have c_42 := (zle (x := iZ (gz (F_8 3) ((6 * x2) + x3))) (y := iZ (gz (F_8 3) ((6 * x1) + x3))) rfl rfl ⟨by omega, by omega⟩ ⟨by omega, by omega⟩).mp c_42
            refine lv_iload hx hb dX12_before_88 (lv_at hl 1 rfl) ?_
            refine lv_iload hx hb dX12_before_90 (lv_at hl 0 rfl) ?_
            refine lv_icmp_le (tgt := 99) hx hb dX12_before_92 (by decide) (fun c_43 => ?_) (fun c_43 => ?_)
            ·
              have c_43 := (zle (x := iZ (gz (F_8 3) ((6 * x1) + x3))) (y := iZ (gz (F_8 3) ((6 * x2) + x3))) rfl rfl ⟨by omega, by omega⟩ ⟨by omega, by omega⟩).mp c_43
              refine lv_iconst (v := iZ 2) hx hb dX12_before_99 (by decide) ?_
              refine CWV (As := [.int (iZ 2)]) (rest := []) (wc := [(hm, .inr (12, [.ref Ma, .ref Mn, .int (iZ Mst), .long Mtp, .long Mbt, .ref Ms, .ref My, .ref Mt, .ref Mp, .ref Mx, .int (iZ Mtd), .int (iZ Msz), .int (iZ Mtk), .int (iZ Mfr), .int (iZ Men), .int (iZ Mva), .int (iZ Mfk), .int (iZ Mfp), .int (iZ Mfs), .int (iZ Mse), .int (iZ Mlt), .ref Mo, .int (iZ Mdp), .int (iZ Mct), .ref Mk, .ref Ml, .ref Mb, .ref Mh, .ref Mc, .int (iZ Mdr), .int (iZ Mrs), .ref Mz, .ref Mr, .ref Mq, .int (iZ Mit), .int (iZ Mmk)]))]) (wr := [(Ma, .inl (k 1, 5340, .inl Af)), (Mk, .inl (k 1, 6, .inl (F_8 0))), (Ml, .inl (k 1, 6, .inl (F_8 1))), (Mb, .inl (k 1, 6, .inl (F_8 2))), (Mh, .inl (k 1, 120, .inl (F_8 3)))]) hx hb hml hown hts hKK hP hD hS hA (m_gives l D k hm Ma Mn Ms My Mt Mp Mx Mo Mk Ml Mb Mh Mc Mz Mr Mq Mst Mtd Msz Mtk Mfr Men Mva Mfk Mfp Mfs Mse Mlt Mdp Mct Mdr Mrs Mit Mmk Mtp Mbt 2) ci_X12_gives qm_X12_85 ⟨Nat.le_of_ble_eq_true rfl, Nat.le_of_ble_eq_true rfl⟩ ⟨Nat.le_of_ble_eq_true rfl, Nat.le_of_ble_eq_true rfl⟩ [0] [1, 2, 3, 4, 5] rfl rfl rfl rfl rfl (by decide) 0 rfl rfl rfl hl.1 rfl (Nat.le_of_ble_eq_true rfl) dX12_before_100 (fun u_44 H locs hφ hP hD hS => ?_)
              obtain ⟨I_45, L_46, F_47, G_48⟩ := u_44
              refine W.eq (g2 := F0 m 103 ls [.int (iZ 2)]) rfl ?_
              exact EWi hx hb hr hlocks hS (fun i => [2, 0].getD i 0, fun i => [0].getD i 0, fun i => [(F_8 0), (F_8 1), (F_8 2), (F_8 3)].getD i (fun _ => 0), fun i => [].getD i (fun _ => 0)) rfl (show rgI (F_8 3) 0 1000000 120 from p_11) (hP.sub [5, 0, 1, 2, 3, 4] rfl) (hD.sub [5, 0, 1, 2, 3, 4] rfl rfl) dX12_before_103
            ·
              have c_43 := mt (zle (x := iZ (gz (F_8 3) ((6 * x1) + x3))) (y := iZ (gz (F_8 3) ((6 * x2) + x3))) rfl rfl ⟨by omega, by omega⟩ ⟨by omega, by omega⟩).mpr c_43
              refine lv_iconst (v := iZ 1) hx hb dX12_before_95 (by decide) ?_
              refine lv_goto (tgt := 100) hx hb dX12_before_96 (by decide) ?_
              refine CWV (As := [.int (iZ 1)]) (rest := []) (wc := [(hm, .inr (12, [.ref Ma, .ref Mn, .int (iZ Mst), .long Mtp, .long Mbt, .ref Ms, .ref My, .ref Mt, .ref Mp, .ref Mx, .int (iZ Mtd), .int (iZ Msz), .int (iZ Mtk), .int (iZ Mfr), .int (iZ Men), .int (iZ Mva), .int (iZ Mfk), .int (iZ Mfp), .int (iZ Mfs), .int (iZ Mse), .int (iZ Mlt), .ref Mo, .int (iZ Mdp), .int (iZ Mct), .ref Mk, .ref Ml, .ref Mb, .ref Mh, .ref Mc, .int (iZ Mdr), .int (iZ Mrs), .ref Mz, .ref Mr, .ref Mq, .int (iZ Mit), .int (iZ Mmk)]))]) (wr := [(Ma, .inl (k 1, 5340, .inl Af)), (Mk, .inl (k 1, 6, .inl (F_8 0))), (Ml, .inl (k 1, 6, .inl (F_8 1))), (Mb, .inl (k 1, 6, .inl (F_8 2))), (Mh, .inl (k 1, 120, .inl (F_8 3)))]) hx hb hml hown hts hKK hP hD hS hA (m_gives l D k hm Ma Mn Ms My Mt Mp Mx Mo Mk Ml Mb Mh Mc Mz Mr Mq Mst Mtd Msz Mtk Mfr Men Mva Mfk Mfp Mfs Mse Mlt Mdp Mct Mdr Mrs Mit Mmk Mtp Mbt 1) ci_X12_gives qm_X12_85 ⟨Nat.le_of_ble_eq_true rfl, Nat.le_of_ble_eq_true rfl⟩ ⟨Nat.le_of_ble_eq_true rfl, Nat.le_of_ble_eq_true rfl⟩ [0] [1, 2, 3, 4, 5] rfl rfl rfl rfl rfl (by decide) 0 rfl rfl rfl hl.1 rfl (Nat.le_of_ble_eq_true rfl) dX12_before_100 (fun u_50 H locs hφ hP hD hS => ?_)
              obtain ⟨I_51, L_52, F_53, G_54⟩ := u_50
              refine W.eq (g2 := F0 m 103 ls [.int (iZ 1)]) rfl ?_
              exact EWi hx hb hr hlocks hS (fun i => [1, 0].getD i 0, fun i => [0].getD i 0, fun i => [(F_8 0), (F_8 1), (F_8 2), (F_8 3)].getD i (fun _ => 0), fun i => [].getD i (fun _ => 0)) rfl (show rgI (F_8 3) 0 1000000 120 from p_11) (hP.sub [5, 0, 1, 2, 3, 4] rfl) (hD.sub [5, 0, 1, 2, 3, 4] rfl rfl) dX12_before_103
          ·
            have c_42 := mt (zle (x := iZ (gz (F_8 3) ((6 * x2) + x3))) (y := iZ (gz (F_8 3) ((6 * x1) + x3))) rfl rfl ⟨by omega, by omega⟩ ⟨by omega, by omega⟩).mpr c_42
            refine lv_iconst (v := iZ 0) hx hb dX12_before_84 (by decide) ?_
            refine lv_goto (tgt := 100) hx hb dX12_before_85 (by decide) ?_
            refine CWV (As := [.int (iZ 0)]) (rest := []) (wc := [(hm, .inr (12, [.ref Ma, .ref Mn, .int (iZ Mst), .long Mtp, .long Mbt, .ref Ms, .ref My, .ref Mt, .ref Mp, .ref Mx, .int (iZ Mtd), .int (iZ Msz), .int (iZ Mtk), .int (iZ Mfr), .int (iZ Men), .int (iZ Mva), .int (iZ Mfk), .int (iZ Mfp), .int (iZ Mfs), .int (iZ Mse), .int (iZ Mlt), .ref Mo, .int (iZ Mdp), .int (iZ Mct), .ref Mk, .ref Ml, .ref Mb, .ref Mh, .ref Mc, .int (iZ Mdr), .int (iZ Mrs), .ref Mz, .ref Mr, .ref Mq, .int (iZ Mit), .int (iZ Mmk)]))]) (wr := [(Ma, .inl (k 1, 5340, .inl Af)), (Mk, .inl (k 1, 6, .inl (F_8 0))), (Ml, .inl (k 1, 6, .inl (F_8 1))), (Mb, .inl (k 1, 6, .inl (F_8 2))), (Mh, .inl (k 1, 120, .inl (F_8 3)))]) hx hb hml hown hts hKK hP hD hS hA (m_gives l D k hm Ma Mn Ms My Mt Mp Mx Mo Mk Ml Mb Mh Mc Mz Mr Mq Mst Mtd Msz Mtk Mfr Men Mva Mfk Mfp Mfs Mse Mlt Mdp Mct Mdr Mrs Mit Mmk Mtp Mbt 0) ci_X12_gives qm_X12_85 ⟨Nat.le_of_ble_eq_true rfl, Nat.le_of_ble_eq_true rfl⟩ ⟨Nat.le_of_ble_eq_true rfl, Nat.le_of_ble_eq_true rfl⟩ [0] [1, 2, 3, 4, 5] rfl rfl rfl rfl rfl (by decide) 0 rfl rfl rfl hl.1 rfl (Nat.le_of_ble_eq_true rfl) dX12_before_100 (fun u_56 H locs hφ hP hD hS => ?_)
            obtain ⟨I_57, L_58, F_59, G_60⟩ := u_56
            refine W.eq (g2 := F0 m 103 ls [.int (iZ 0)]) rfl ?_
            exact EWi hx hb hr hlocks hS (fun i => [0, 0].getD i 0, fun i => [0].getD i 0, fun i => [(F_8 0), (F_8 1), (F_8 2), (F_8 3)].getD i (fun _ => 0), fun i => [].getD i (fun _ => 0)) rfl (show rgI (F_8 3) 0 1000000 120 from p_11) (hP.sub [5, 0, 1, 2, 3, 4] rfl) (hD.sub [5, 0, 1, 2, 3, 4] rfl rfl) dX12_before_103
        ·
          have c_41 := (zeq (x := iZ (gz (F_8 3) ((6 * x2) + x3))) (y := iZ 1000000) rfl rfl ⟨by omega, by omega⟩ ⟨by omega, by omega⟩).mp c_41
          refine lv_aload_n hx hb dX12_before_67 rfl (lv_at hl 2 rfl) ?_
          refine lv_bipush (v := iZ 6) hx hb dX12_before_68 (by decide) ?_
          refine CWV (As := [.int (iZ 6)]) (rest := []) (wc := [(hm, .inr (12, [.ref Ma, .ref Mn, .int (iZ Mst), .long Mtp, .long Mbt, .ref Ms, .ref My, .ref Mt, .ref Mp, .ref Mx, .int (iZ Mtd), .int (iZ Msz), .int (iZ Mtk), .int (iZ Mfr), .int (iZ Men), .int (iZ Mva), .int (iZ Mfk), .int (iZ Mfp), .int (iZ Mfs), .int (iZ Mse), .int (iZ Mlt), .ref Mo, .int (iZ Mdp), .int (iZ Mct), .ref Mk, .ref Ml, .ref Mb, .ref Mh, .ref Mc, .int (iZ Mdr), .int (iZ Mrs), .ref Mz, .ref Mr, .ref Mq, .int (iZ Mit), .int (iZ Mmk)]))]) (wr := [(Ma, .inl (k 1, 5340, .inl Af)), (Mk, .inl (k 1, 6, .inl (F_8 0))), (Ml, .inl (k 1, 6, .inl (F_8 1))), (Mb, .inl (k 1, 6, .inl (F_8 2))), (Mh, .inl (k 1, 120, .inl (F_8 3)))]) hx hb hml hown hts hKK hP hD hS hA (m_refuse l D k hm Ma Mn Ms My Mt Mp Mx Mo Mk Ml Mb Mh Mc Mz Mr Mq Mst Mtd Msz Mtk Mfr Men Mva Mfk Mfp Mfs Mse Mlt Mdp Mct Mdr Mrs Mit Mmk Mtp Mbt 6) ci_X12_refuse qm_X12_81 ⟨Nat.le_of_ble_eq_true rfl, Nat.le_of_ble_eq_true rfl⟩ ⟨Nat.le_of_ble_eq_true rfl, Nat.le_of_ble_eq_true rfl⟩ [0] [1, 2, 3, 4, 5] rfl rfl rfl rfl rfl (by decide) 0 rfl rfl rfl hl.1 rfl (Nat.le_of_ble_eq_true rfl) dX12_before_70 (fun u_62 H locs hφ hP hD hS => ?_)
          obtain ⟨I_63, L_64, F_65, G_66⟩ := u_62
          refine W.eq (g2 := F0 m 73 ls [.int (iZ (-1))]) rfl ?_
          refine lv_goto (tgt := 103) hx hb dX12_before_73 (by decide) ?_
          exact EWi hx hb hr hlocks hS (fun i => [(-1), 6].getD i 0, fun i => [0].getD i 0, fun i => [(F_8 0), (F_8 1), (F_8 2), (F_8 3)].getD i (fun _ => 0), fun i => [].getD i (fun _ => 0)) rfl (show rgI (F_8 3) 0 1000000 120 from p_11) (hP.sub [5, 0, 1, 2, 3, 4] rfl) (hD.sub [5, 0, 1, 2, 3, 4] rfl rfl) dX12_before_103
    ·
      subst qz_3
      refine lv_if_ne (tgt := 23) hx hb dX12_before_14 (by decide) (fun c => absurd (by decide) c) (fun _ => ?_)
      refine lv_aload_n hx hb dX12_before_17 rfl (lv_at hl 0 rfl) ?_
      refine lv_iconst (v := iZ 1) hx hb dX12_before_18 (by decide) ?_
      refine CWV (As := [.int (iZ 1)]) (rest := []) (wc := [(hm, .inr (12, [.ref Ma, .ref Mn, .int (iZ Mst), .long Mtp, .long Mbt, .ref Ms, .ref My, .ref Mt, .ref Mp, .ref Mx, .int (iZ Mtd), .int (iZ Msz), .int (iZ Mtk), .int (iZ Mfr), .int (iZ Men), .int (iZ Mva), .int (iZ Mfk), .int (iZ Mfp), .int (iZ Mfs), .int (iZ Mse), .int (iZ Mlt), .ref Mo, .int (iZ Mdp), .int (iZ Mct), .ref Mk, .ref Ml, .ref Mb, .ref Mh, .ref Mc, .int (iZ Mdr), .int (iZ Mrs), .ref Mz, .ref Mr, .ref Mq, .int (iZ Mit), .int (iZ Mmk)]))]) (wr := [(Ma, .inl (k 1, 5340, .inl Af)), (Mk, .inl (k 1, 6, .inl Kf)), (Ml, .inl (k 1, 6, .inl Lf)), (Mb, .inl (k 1, 6, .inl Bf)), (Mh, .inl (k 1, 120, .inl Hf))]) hx hb hml hown hts hKK hP hD hS hA (m_refuse l D k hm Ma Mn Ms My Mt Mp Mx Mo Mk Ml Mb Mh Mc Mz Mr Mq Mst Mtd Msz Mtk Mfr Men Mva Mfk Mfp Mfs Mse Mlt Mdp Mct Mdr Mrs Mit Mmk Mtp Mbt 1) ci_X12_refuse qm_X12_81 ⟨Nat.le_of_ble_eq_true rfl, Nat.le_of_ble_eq_true rfl⟩ ⟨Nat.le_of_ble_eq_true rfl, Nat.le_of_ble_eq_true rfl⟩ [0] [1, 2, 3, 4, 5] rfl rfl rfl rfl rfl (by decide) 0 rfl rfl rfl hl.1 rfl (Nat.le_of_ble_eq_true rfl) dX12_before_19 (fun u_69 H locs hφ hP hD hS => ?_)
      obtain ⟨I_70, L_71, F_72, G_73⟩ := u_69
      refine W.eq (g2 := F0 m 22 ls [.int (iZ (-1))]) rfl ?_
      exact EWi hx hb hr hlocks hS (fun i => [(-1), 1].getD i 0, fun i => [0].getD i 0, fun i => [Kf, Lf, Bf, Hf].getD i (fun _ => 0), fun i => [].getD i (fun _ => 0)) rfl (show rgI Hf 0 1000000 120 from rgH) (hP.sub [5, 0, 1, 2, 3, 4] rfl) (hD.sub [5, 0, 1, 2, 3, 4] rfl rfl) dX12_before_22
  ·
    subst qz_1
    refine lv_if_eq (tgt := 17) hx hb dX12_before_6 (by decide) (fun _ => ?_) (fun c => absurd (by decide) c)
    refine lv_aload_n hx hb dX12_before_17 rfl (lv_at hl 0 rfl) ?_
    refine lv_iconst (v := iZ 1) hx hb dX12_before_18 (by decide) ?_
    refine CWV (As := [.int (iZ 1)]) (rest := []) (wc := [(hm, .inr (12, [.ref Ma, .ref Mn, .int (iZ Mst), .long Mtp, .long Mbt, .ref Ms, .ref My, .ref Mt, .ref Mp, .ref Mx, .int (iZ Mtd), .int (iZ Msz), .int (iZ Mtk), .int (iZ Mfr), .int (iZ Men), .int (iZ Mva), .int (iZ Mfk), .int (iZ Mfp), .int (iZ Mfs), .int (iZ Mse), .int (iZ Mlt), .ref Mo, .int (iZ Mdp), .int (iZ Mct), .ref Mk, .ref Ml, .ref Mb, .ref Mh, .ref Mc, .int (iZ Mdr), .int (iZ Mrs), .ref Mz, .ref Mr, .ref Mq, .int (iZ Mit), .int (iZ Mmk)]))]) (wr := [(Ma, .inl (k 1, 5340, .inl Af)), (Mk, .inl (k 1, 6, .inl Kf)), (Ml, .inl (k 1, 6, .inl Lf)), (Mb, .inl (k 1, 6, .inl Bf)), (Mh, .inl (k 1, 120, .inl Hf))]) hx hb hml hown hts hKK hP hD hS hA (m_refuse l D k hm Ma Mn Ms My Mt Mp Mx Mo Mk Ml Mb Mh Mc Mz Mr Mq Mst Mtd Msz Mtk Mfr Men Mva Mfk Mfp Mfs Mse Mlt Mdp Mct Mdr Mrs Mit Mmk Mtp Mbt 1) ci_X12_refuse qm_X12_81 ⟨Nat.le_of_ble_eq_true rfl, Nat.le_of_ble_eq_true rfl⟩ ⟨Nat.le_of_ble_eq_true rfl, Nat.le_of_ble_eq_true rfl⟩ [0] [1, 2, 3, 4, 5] rfl rfl rfl rfl rfl (by decide) 0 rfl rfl rfl hl.1 rfl (Nat.le_of_ble_eq_true rfl) dX12_before_19 (fun u_76 H locs hφ hP hD hS => ?_)
    obtain ⟨I_77, L_78, F_79, G_80⟩ := u_76
    refine W.eq (g2 := F0 m 22 ls [.int (iZ (-1))]) rfl ?_
    exact EWi hx hb hr hlocks hS (fun i => [(-1), 1].getD i 0, fun i => [0].getD i 0, fun i => [Kf, Lf, Bf, Hf].getD i (fun _ => 0), fun i => [].getD i (fun _ => 0)) rfl (show rgI Hf 0 1000000 120 from rgH) (hP.sub [5, 0, 1, 2, 3, 4] rfl) (hD.sub [5, 0, 1, 2, 3, 4] rfl rfl) dX12_before_22
set_option maxHeartbeats 4000000 in
set_option maxRecDepth 100000 in
theorem q_oneForAll (l : Launch) (D : va_G) (k : Nat → ClassId) (hm : Nat) (Ma : Nat) (Mn : Nat) (Ms : Nat) (My : Nat) (Mt : Nat) (Mp : Nat) (Mx : Nat) (Mo : Nat) (Mk : Nat) (Ml : Nat) (Mb : Nat) (Mh : Nat) (Mc : Nat) (Mz : Nat) (Mr : Nat) (Mq : Nat) (Mst : Int) (Mtd : Int) (Msz : Int) (Mtk : Int) (Mfr : Int) (Men : Int) (Mva : Int) (Mfk : Int) (Mfp : Int) (Mfs : Int) (Mse : Int) (Mlt : Int) (Mdp : Int) (Mct : Int) (Mdr : Int) (Mrs : Int) (Mit : Int) (Mmk : Int) (Mtp : Int64) (Mbt : Int64) (Af : Nat → Int32) (Kf : Nat → Int32) (Lf : Nat → Int32) (Bf : Nat → Int32) (Hf : Nat → Int32) (x1 : Int) (x2 : Int) (hM : M0 Af) (rgH : rgI Hf 0 1000000 120) (h9x1 : -2147483648 ≤ x1 ∧ x1 < 2147483648) (h9x2 : -2147483648 ≤ x2 ∧ x2 < 2147483648) : WD (σ := ((Nat → Int) × (Nat → Int64) × (Nat → Nat → Int32) × (Nat → Nat → Int64))) l yX12_oneForAll cX12_oneForAll 3 (some .int) 8 0 0 D k [.ref hm, .int (iZ x1), .int (iZ x2)] [(hm, .inr (12, [.ref Ma, .ref Mn, .int (iZ Mst), .long Mtp, .long Mbt, .ref Ms, .ref My, .ref Mt, .ref Mp, .ref Mx, .int (iZ Mtd), .int (iZ Msz), .int (iZ Mtk), .int (iZ Mfr), .int (iZ Men), .int (iZ Mva), .int (iZ Mfk), .int (iZ Mfp), .int (iZ Mfs), .int (iZ Mse), .int (iZ Mlt), .ref Mo, .int (iZ Mdp), .int (iZ Mct), .ref Mk, .ref Ml, .ref Mb, .ref Mh, .ref Mc, .int (iZ Mdr), .int (iZ Mrs), .ref Mz, .ref Mr, .ref Mq, .int (iZ Mit), .int (iZ Mmk)])), (Ma, .inl (k 1, 5340, .inl Af)), (Mk, .inl (k 1, 6, .inl Kf)), (Ml, .inl (k 1, 6, .inl Lf)), (Mb, .inl (k 1, 6, .inl Bf)), (Mh, .inl (k 1, 120, .inl Hf))] (fun u => some (.int (iZ (u.1 0)))) (fun u => rgI (u.2.2.1 3) 0 1000000 120) (fun u => [(hm, .inr (12, [.ref Ma, .ref Mn, .int (iZ (u.1 1)), .long Mtp, .long Mbt, .ref Ms, .ref My, .ref Mt, .ref Mp, .ref Mx, .int (iZ Mtd), .int (iZ Msz), .int (iZ Mtk), .int (iZ Mfr), .int (iZ Men), .int (iZ Mva), .int (iZ Mfk), .int (iZ Mfp), .int (iZ Mfs), .int (iZ Mse), .int (iZ Mlt), .ref Mo, .int (iZ Mdp), .int (iZ Mct), .ref Mk, .ref Ml, .ref Mb, .ref Mh, .ref Mc, .int (iZ Mdr), .int (iZ Mrs), .ref Mz, .ref Mr, .ref Mq, .int (iZ Mit), .int (iZ Mmk)])), (Ma, .inl (k 1, 5340, .inl Af)), (Mk, .inl (k 1, 6, .inl (u.2.2.1 0))), (Ml, .inl (k 1, 6, .inl (u.2.2.1 1))), (Mb, .inl (k 1, 6, .inl (u.2.2.1 2))), (Mh, .inl (k 1, 120, .inl (u.2.2.1 3)))]) := by
  refine MW (by decide) (Nat.le_of_ble_eq_true rfl) (fun p e s m below meth c ls A hx hb hml hr hlocks hin hts hown hKK hP hD hS hA hl => ?_)
  have hK := hKK.1
  have hl : lv_has ls 3 [(0, .ref hm), (1, .int (iZ x1)), (2, .int (iZ x2))] := hl
  obtain ⟨m0, m1, m3, m4, m5, mF, mO, mS⟩ := id hM
  refine lv_aload_n hx hb dX12_oneForAll_0 rfl (lv_at hl 0 rfl) ?_
  refine lv_iload_n hx hb dX12_oneForAll_1 rfl (lv_at hl 1 rfl) ?_
  refine lv_iload_n hx hb dX12_oneForAll_2 rfl (lv_at hl 2 rfl) ?_
  refine CPV (As := [.int (iZ x1), .int (iZ x2)]) (rest := []) hx hb hml hown hts hKK (hP.sub (ws' := [(hm, .inr (12, [.ref Ma, .ref Mn, .int (iZ Mst), .long Mtp, .long Mbt, .ref Ms, .ref My, .ref Mt, .ref Mp, .ref Mx, .int (iZ Mtd), .int (iZ Msz), .int (iZ Mtk), .int (iZ Mfr), .int (iZ Men), .int (iZ Mva), .int (iZ Mfk), .int (iZ Mfp), .int (iZ Mfs), .int (iZ Mse), .int (iZ Mlt), .ref Mo, .int (iZ Mdp), .int (iZ Mct), .ref Mk, .ref Ml, .ref Mb, .ref Mh, .ref Mc, .int (iZ Mdr), .int (iZ Mrs), .ref Mz, .ref Mr, .ref Mq, .int (iZ Mit), .int (iZ Mmk)])), (Ma, .inl (k 1, 5340, .inl Af))]) [0, 1] rfl) (m_areOrders l D k ([.ref Ma, .ref Mn, .int (iZ Mst), .long Mtp, .long Mbt, .ref Ms, .ref My, .ref Mt, .ref Mp, .ref Mx, .int (iZ Mtd), .int (iZ Msz), .int (iZ Mtk), .int (iZ Mfr), .int (iZ Men), .int (iZ Mva), .int (iZ Mfk), .int (iZ Mfp), .int (iZ Mfs), .int (iZ Mse), .int (iZ Mlt), .ref Mo, .int (iZ Mdp), .int (iZ Mct), .ref Mk, .ref Ml, .ref Mb, .ref Mh, .ref Mc, .int (iZ Mdr), .int (iZ Mrs), .ref Mz, .ref Mr, .ref Mq, .int (iZ Mit), .int (iZ Mmk)]) hm Ma Af x1 x2 rfl hM ⟨by omega, by omega⟩ ⟨by omega, by omega⟩) ci_X12_areOrders qm_X12_336 ⟨Nat.le_of_ble_eq_true rfl, Nat.le_of_ble_eq_true rfl⟩ ⟨Nat.le_of_ble_eq_true rfl, Nat.le_of_ble_eq_true rfl⟩ 0 rfl rfl rfl hl.1 rfl (Nat.le_of_ble_eq_true rfl) dX12_oneForAll_3 (fun z_1 hz_1 => ?_)
  rcases hz_1 with ⟨qz_1, hz_1⟩ | ⟨qz_1, hz_1⟩
  ·
    subst qz_1
    refine lv_if_ne (tgt := 15) hx hb dX12_oneForAll_6 (by decide) (fun _ => ?_) (fun c => absurd c (by decide))
    refine lv_aload_n hx hb dX12_oneForAll_15 rfl (lv_at hl 0 rfl) ?_
    refine CWV (As := []) (rest := []) (wc := [(hm, .inr (12, [.ref Ma, .ref Mn, .int (iZ Mst), .long Mtp, .long Mbt, .ref Ms, .ref My, .ref Mt, .ref Mp, .ref Mx, .int (iZ Mtd), .int (iZ Msz), .int (iZ Mtk), .int (iZ Mfr), .int (iZ Men), .int (iZ Mva), .int (iZ Mfk), .int (iZ Mfp), .int (iZ Mfs), .int (iZ Mse), .int (iZ Mlt), .ref Mo, .int (iZ Mdp), .int (iZ Mct), .ref Mk, .ref Ml, .ref Mb, .ref Mh, .ref Mc, .int (iZ Mdr), .int (iZ Mrs), .ref Mz, .ref Mr, .ref Mq, .int (iZ Mit), .int (iZ Mmk)])), (Ma, .inl (k 1, 5340, .inl Af)), (Mk, .inl (k 1, 6, .inl Kf)), (Ml, .inl (k 1, 6, .inl Lf)), (Mb, .inl (k 1, 6, .inl Bf)), (Mh, .inl (k 1, 120, .inl Hf))]) (wr := []) hx hb hml hown hts hKK hP hD hS hA (m_laysOrders l D k hm Ma Mn Ms My Mt Mp Mx Mo Mk Ml Mb Mh Mc Mz Mr Mq Mst Mtd Msz Mtk Mfr Men Mva Mfk Mfp Mfs Mse Mlt Mdp Mct Mdr Mrs Mit Mmk Mtp Mbt Af Kf Lf Bf Hf hM rgH) ci_X12_laysOrders qm_X12_330 ⟨Nat.le_of_ble_eq_true rfl, Nat.le_of_ble_eq_true rfl⟩ ⟨Nat.le_of_ble_eq_true rfl, Nat.le_of_ble_eq_true rfl⟩ [0, 1, 2, 3, 4, 5] [] rfl rfl rfl rfl rfl (by decide) 0 rfl rfl rfl hl.1 rfl (Nat.le_of_ble_eq_true rfl) dX12_oneForAll_16 (fun u_3 H locs hφ hP hD hS => ?_)
    obtain ⟨I_4, L_5, F_6, G_7⟩ := u_3
    have p_9 : rgI (F_6 3) 0 1000000 120 := hφ
    refine W.eq (g2 := F0 m 19 ls []) rfl ?_
    refine lv_aload_n hx hb dX12_oneForAll_19 rfl (lv_at hl 0 rfl) ?_
    refine lv_aload_n hx hb dX12_oneForAll_20 rfl (lv_at hl 0 rfl) ?_
    refine lv_iload_n hx hb dX12_oneForAll_21 rfl (lv_at hl 1 rfl) ?_
    refine lv_iload_n hx hb dX12_oneForAll_22 rfl (lv_at hl 2 rfl) ?_
    refine CPV (As := [.int (iZ x1), .int (iZ x2)]) (rest := [.ref hm]) hx hb hml hown hts hKK (hP.sub (ws' := [(hm, .inr (12, [.ref Ma, .ref Mn, .int (iZ Mst), .long Mtp, .long Mbt, .ref Ms, .ref My, .ref Mt, .ref Mp, .ref Mx, .int (iZ Mtd), .int (iZ Msz), .int (iZ Mtk), .int (iZ Mfr), .int (iZ Men), .int (iZ Mva), .int (iZ Mfk), .int (iZ Mfp), .int (iZ Mfs), .int (iZ Mse), .int (iZ Mlt), .ref Mo, .int (iZ Mdp), .int (iZ Mct), .ref Mk, .ref Ml, .ref Mb, .ref Mh, .ref Mc, .int (iZ Mdr), .int (iZ Mrs), .ref Mz, .ref Mr, .ref Mq, .int (iZ Mit), .int (iZ Mmk)])), (Ma, .inl (k 1, 5340, .inl Af)), (Mh, .inl (k 1, 120, .inl (F_6 3)))]) [0, 1, 5] rfl) (m_isOne l D k ([.ref Ma, .ref Mn, .int (iZ Mst), .long Mtp, .long Mbt, .ref Ms, .ref My, .ref Mt, .ref Mp, .ref Mx, .int (iZ Mtd), .int (iZ Msz), .int (iZ Mtk), .int (iZ Mfr), .int (iZ Men), .int (iZ Mva), .int (iZ Mfk), .int (iZ Mfp), .int (iZ Mfs), .int (iZ Mse), .int (iZ Mlt), .ref Mo, .int (iZ Mdp), .int (iZ Mct), .ref Mk, .ref Ml, .ref Mb, .ref Mh, .ref Mc, .int (iZ Mdr), .int (iZ Mrs), .ref Mz, .ref Mr, .ref Mq, .int (iZ Mit), .int (iZ Mmk)]) hm Ma Mh Af (F_6 3) x1 x2 rfl rfl hM ⟨by omega, by omega⟩ ⟨by omega, by omega⟩ p_9) ci_X12_isOne qm_X12_339 ⟨Nat.le_of_ble_eq_true rfl, Nat.le_of_ble_eq_true rfl⟩ ⟨Nat.le_of_ble_eq_true rfl, Nat.le_of_ble_eq_true rfl⟩ 0 rfl rfl rfl hl.1 rfl (Nat.le_of_ble_eq_true rfl) dX12_oneForAll_23 (fun z_10 hz_10 => ?_)
    refine lv_if_eq (tgt := 33) hx hb dX12_oneForAll_26 (by decide) (fun c_11 => ?_) (fun c_11 => ?_)
    ·
      have c_11 := (zeq (x := iZ z_10) (y := iZ 0) rfl rfl ⟨by omega, by omega⟩ ⟨by omega, by omega⟩).mp c_11
      refine lv_iconst (v := iZ 0) hx hb dX12_oneForAll_33 (by decide) ?_
      refine CWV (As := [.int (iZ 0)]) (rest := []) (wc := [(hm, .inr (12, [.ref Ma, .ref Mn, .int (iZ Mst), .long Mtp, .long Mbt, .ref Ms, .ref My, .ref Mt, .ref Mp, .ref Mx, .int (iZ Mtd), .int (iZ Msz), .int (iZ Mtk), .int (iZ Mfr), .int (iZ Men), .int (iZ Mva), .int (iZ Mfk), .int (iZ Mfp), .int (iZ Mfs), .int (iZ Mse), .int (iZ Mlt), .ref Mo, .int (iZ Mdp), .int (iZ Mct), .ref Mk, .ref Ml, .ref Mb, .ref Mh, .ref Mc, .int (iZ Mdr), .int (iZ Mrs), .ref Mz, .ref Mr, .ref Mq, .int (iZ Mit), .int (iZ Mmk)]))]) (wr := [(Ma, .inl (k 1, 5340, .inl Af)), (Mk, .inl (k 1, 6, .inl (F_6 0))), (Ml, .inl (k 1, 6, .inl (F_6 1))), (Mb, .inl (k 1, 6, .inl (F_6 2))), (Mh, .inl (k 1, 120, .inl (F_6 3)))]) hx hb hml hown hts hKK hP hD hS hA (m_gives l D k hm Ma Mn Ms My Mt Mp Mx Mo Mk Ml Mb Mh Mc Mz Mr Mq Mst Mtd Msz Mtk Mfr Men Mva Mfk Mfp Mfs Mse Mlt Mdp Mct Mdr Mrs Mit Mmk Mtp Mbt 0) ci_X12_gives qm_X12_85 ⟨Nat.le_of_ble_eq_true rfl, Nat.le_of_ble_eq_true rfl⟩ ⟨Nat.le_of_ble_eq_true rfl, Nat.le_of_ble_eq_true rfl⟩ [0] [1, 2, 3, 4, 5] rfl rfl rfl rfl rfl (by decide) 0 rfl rfl rfl hl.1 rfl (Nat.le_of_ble_eq_true rfl) dX12_oneForAll_34 (fun u_12 H locs hφ hP hD hS => ?_)
      obtain ⟨I_13, L_14, F_15, G_16⟩ := u_12
      refine W.eq (g2 := F0 m 37 ls [.int (iZ 0)]) rfl ?_
      exact EWi hx hb hr hlocks hS (fun i => [0, 0].getD i 0, fun i => [0].getD i 0, fun i => [(F_6 0), (F_6 1), (F_6 2), (F_6 3)].getD i (fun _ => 0), fun i => [].getD i (fun _ => 0)) rfl (show rgI (F_6 3) 0 1000000 120 from p_9) (hP.sub [5, 0, 1, 2, 3, 4] rfl) (hD.sub [5, 0, 1, 2, 3, 4] rfl rfl) dX12_oneForAll_37
    ·
      have c_11 := mt (zeq (x := iZ z_10) (y := iZ 0) rfl rfl ⟨by omega, by omega⟩ ⟨by omega, by omega⟩).mpr c_11
      refine lv_iconst (v := iZ 1) hx hb dX12_oneForAll_29 (by decide) ?_
      refine lv_goto (tgt := 34) hx hb dX12_oneForAll_30 (by decide) ?_
      refine CWV (As := [.int (iZ 1)]) (rest := []) (wc := [(hm, .inr (12, [.ref Ma, .ref Mn, .int (iZ Mst), .long Mtp, .long Mbt, .ref Ms, .ref My, .ref Mt, .ref Mp, .ref Mx, .int (iZ Mtd), .int (iZ Msz), .int (iZ Mtk), .int (iZ Mfr), .int (iZ Men), .int (iZ Mva), .int (iZ Mfk), .int (iZ Mfp), .int (iZ Mfs), .int (iZ Mse), .int (iZ Mlt), .ref Mo, .int (iZ Mdp), .int (iZ Mct), .ref Mk, .ref Ml, .ref Mb, .ref Mh, .ref Mc, .int (iZ Mdr), .int (iZ Mrs), .ref Mz, .ref Mr, .ref Mq, .int (iZ Mit), .int (iZ Mmk)]))]) (wr := [(Ma, .inl (k 1, 5340, .inl Af)), (Mk, .inl (k 1, 6, .inl (F_6 0))), (Ml, .inl (k 1, 6, .inl (F_6 1))), (Mb, .inl (k 1, 6, .inl (F_6 2))), (Mh, .inl (k 1, 120, .inl (F_6 3)))]) hx hb hml hown hts hKK hP hD hS hA (m_gives l D k hm Ma Mn Ms My Mt Mp Mx Mo Mk Ml Mb Mh Mc Mz Mr Mq Mst Mtd Msz Mtk Mfr Men Mva Mfk Mfp Mfs Mse Mlt Mdp Mct Mdr Mrs Mit Mmk Mtp Mbt 1) ci_X12_gives qm_X12_85 ⟨Nat.le_of_ble_eq_true rfl, Nat.le_of_ble_eq_true rfl⟩ ⟨Nat.le_of_ble_eq_true rfl, Nat.le_of_ble_eq_true rfl⟩ [0] [1, 2, 3, 4, 5] rfl rfl rfl rfl rfl (by decide) 0 rfl rfl rfl hl.1 rfl (Nat.le_of_ble_eq_true rfl) dX12_oneForAll_34 (fun u_18 H locs hφ hP hD hS => ?_)
      obtain ⟨I_19, L_20, F_21, G_22⟩ := u_18
      refine W.eq (g2 := F0 m 37 ls [.int (iZ 1)]) rfl ?_
      exact EWi hx hb hr hlocks hS (fun i => [1, 0].getD i 0, fun i => [0].getD i 0, fun i => [(F_6 0), (F_6 1), (F_6 2), (F_6 3)].getD i (fun _ => 0), fun i => [].getD i (fun _ => 0)) rfl (show rgI (F_6 3) 0 1000000 120 from p_9) (hP.sub [5, 0, 1, 2, 3, 4] rfl) (hD.sub [5, 0, 1, 2, 3, 4] rfl rfl) dX12_oneForAll_37
  ·
    subst qz_1
    refine lv_if_ne (tgt := 15) hx hb dX12_oneForAll_6 (by decide) (fun c => absurd (by decide) c) (fun _ => ?_)
    refine lv_aload_n hx hb dX12_oneForAll_9 rfl (lv_at hl 0 rfl) ?_
    refine lv_iconst (v := iZ 1) hx hb dX12_oneForAll_10 (by decide) ?_
    refine CWV (As := [.int (iZ 1)]) (rest := []) (wc := [(hm, .inr (12, [.ref Ma, .ref Mn, .int (iZ Mst), .long Mtp, .long Mbt, .ref Ms, .ref My, .ref Mt, .ref Mp, .ref Mx, .int (iZ Mtd), .int (iZ Msz), .int (iZ Mtk), .int (iZ Mfr), .int (iZ Men), .int (iZ Mva), .int (iZ Mfk), .int (iZ Mfp), .int (iZ Mfs), .int (iZ Mse), .int (iZ Mlt), .ref Mo, .int (iZ Mdp), .int (iZ Mct), .ref Mk, .ref Ml, .ref Mb, .ref Mh, .ref Mc, .int (iZ Mdr), .int (iZ Mrs), .ref Mz, .ref Mr, .ref Mq, .int (iZ Mit), .int (iZ Mmk)]))]) (wr := [(Ma, .inl (k 1, 5340, .inl Af)), (Mk, .inl (k 1, 6, .inl Kf)), (Ml, .inl (k 1, 6, .inl Lf)), (Mb, .inl (k 1, 6, .inl Bf)), (Mh, .inl (k 1, 120, .inl Hf))]) hx hb hml hown hts hKK hP hD hS hA (m_refuse l D k hm Ma Mn Ms My Mt Mp Mx Mo Mk Ml Mb Mh Mc Mz Mr Mq Mst Mtd Msz Mtk Mfr Men Mva Mfk Mfp Mfs Mse Mlt Mdp Mct Mdr Mrs Mit Mmk Mtp Mbt 1) ci_X12_refuse qm_X12_81 ⟨Nat.le_of_ble_eq_true rfl, Nat.le_of_ble_eq_true rfl⟩ ⟨Nat.le_of_ble_eq_true rfl, Nat.le_of_ble_eq_true rfl⟩ [0] [1, 2, 3, 4, 5] rfl rfl rfl rfl rfl (by decide) 0 rfl rfl rfl hl.1 rfl (Nat.le_of_ble_eq_true rfl) dX12_oneForAll_11 (fun u_25 H locs hφ hP hD hS => ?_)
    obtain ⟨I_26, L_27, F_28, G_29⟩ := u_25
    refine W.eq (g2 := F0 m 14 ls [.int (iZ (-1))]) rfl ?_
    exact EWi hx hb hr hlocks hS (fun i => [(-1), 1].getD i 0, fun i => [0].getD i 0, fun i => [Kf, Lf, Bf, Hf].getD i (fun _ => 0), fun i => [].getD i (fun _ => 0)) rfl (show rgI Hf 0 1000000 120 from rgH) (hP.sub [5, 0, 1, 2, 3, 4] rfl) (hD.sub [5, 0, 1, 2, 3, 4] rfl rfl) dX12_oneForAll_14
set_option maxHeartbeats 4000000 in
set_option maxRecDepth 100000 in
theorem q_disputes (l : Launch) (D : va_G) (k : Nat → ClassId) (hm : Nat) (Ma : Nat) (Mn : Nat) (Ms : Nat) (My : Nat) (Mt : Nat) (Mp : Nat) (Mx : Nat) (Mo : Nat) (Mk : Nat) (Ml : Nat) (Mb : Nat) (Mh : Nat) (Mc : Nat) (Mz : Nat) (Mr : Nat) (Mq : Nat) (Mst : Int) (Mtd : Int) (Msz : Int) (Mtk : Int) (Mfr : Int) (Men : Int) (Mva : Int) (Mfk : Int) (Mfp : Int) (Mfs : Int) (Mse : Int) (Mlt : Int) (Mdp : Int) (Mct : Int) (Mdr : Int) (Mrs : Int) (Mit : Int) (Mmk : Int) (Mtp : Int64) (Mbt : Int64) (Af : Nat → Int32) (Kf : Nat → Int32) (Lf : Nat → Int32) (Bf : Nat → Int32) (Hf : Nat → Int32) (hM : M0 Af) (rgH : rgI Hf 0 1000000 120) : WD (σ := ((Nat → Int) × (Nat → Int64) × (Nat → Nat → Int32) × (Nat → Nat → Int64))) l yX12_disputes cX12_disputes 4 (some .int) 8 0 0 D k [.ref hm] [(hm, .inr (12, [.ref Ma, .ref Mn, .int (iZ Mst), .long Mtp, .long Mbt, .ref Ms, .ref My, .ref Mt, .ref Mp, .ref Mx, .int (iZ Mtd), .int (iZ Msz), .int (iZ Mtk), .int (iZ Mfr), .int (iZ Men), .int (iZ Mva), .int (iZ Mfk), .int (iZ Mfp), .int (iZ Mfs), .int (iZ Mse), .int (iZ Mlt), .ref Mo, .int (iZ Mdp), .int (iZ Mct), .ref Mk, .ref Ml, .ref Mb, .ref Mh, .ref Mc, .int (iZ Mdr), .int (iZ Mrs), .ref Mz, .ref Mr, .ref Mq, .int (iZ Mit), .int (iZ Mmk)])), (Ma, .inl (k 1, 5340, .inl Af)), (Mk, .inl (k 1, 6, .inl Kf)), (Ml, .inl (k 1, 6, .inl Lf)), (Mb, .inl (k 1, 6, .inl Bf)), (Mh, .inl (k 1, 120, .inl Hf))] (fun u => some (.int (iZ (u.1 0)))) (fun u => rgI (u.2.2.1 3) 0 1000000 120) (fun u => [(hm, .inr (12, [.ref Ma, .ref Mn, .int (iZ (u.1 1)), .long Mtp, .long Mbt, .ref Ms, .ref My, .ref Mt, .ref Mp, .ref Mx, .int (iZ Mtd), .int (iZ Msz), .int (iZ Mtk), .int (iZ Mfr), .int (iZ Men), .int (iZ Mva), .int (iZ Mfk), .int (iZ Mfp), .int (iZ Mfs), .int (iZ Mse), .int (iZ Mlt), .ref Mo, .int (iZ Mdp), .int (iZ Mct), .ref Mk, .ref Ml, .ref Mb, .ref Mh, .ref Mc, .int (iZ Mdr), .int (iZ Mrs), .ref Mz, .ref Mr, .ref Mq, .int (iZ Mit), .int (iZ Mmk)])), (Ma, .inl (k 1, 5340, .inl Af)), (Mk, .inl (k 1, 6, .inl (u.2.2.1 0))), (Ml, .inl (k 1, 6, .inl (u.2.2.1 1))), (Mb, .inl (k 1, 6, .inl (u.2.2.1 2))), (Mh, .inl (k 1, 120, .inl (u.2.2.1 3)))]) := by
  refine MW (by decide) (Nat.le_of_ble_eq_true rfl) (fun p e s m below meth c ls A hx hb hml hr hlocks hin hts hown hKK hP hD hS hA hl => ?_)
  have hK := hKK.1
  have hl : lv_has ls 4 [(0, .ref hm)] := hl
  obtain ⟨m0, m1, m3, m4, m5, mF, mO, mS⟩ := id hM
  refine lv_aload_n hx hb dX12_disputes_0 rfl (lv_at hl 0 rfl) ?_
  refine CWV (As := []) (rest := []) (wc := [(hm, .inr (12, [.ref Ma, .ref Mn, .int (iZ Mst), .long Mtp, .long Mbt, .ref Ms, .ref My, .ref Mt, .ref Mp, .ref Mx, .int (iZ Mtd), .int (iZ Msz), .int (iZ Mtk), .int (iZ Mfr), .int (iZ Men), .int (iZ Mva), .int (iZ Mfk), .int (iZ Mfp), .int (iZ Mfs), .int (iZ Mse), .int (iZ Mlt), .ref Mo, .int (iZ Mdp), .int (iZ Mct), .ref Mk, .ref Ml, .ref Mb, .ref Mh, .ref Mc, .int (iZ Mdr), .int (iZ Mrs), .ref Mz, .ref Mr, .ref Mq, .int (iZ Mit), .int (iZ Mmk)])), (Ma, .inl (k 1, 5340, .inl Af)), (Mk, .inl (k 1, 6, .inl Kf)), (Ml, .inl (k 1, 6, .inl Lf)), (Mb, .inl (k 1, 6, .inl Bf)), (Mh, .inl (k 1, 120, .inl Hf))]) (wr := []) hx hb hml hown hts hKK hP hD hS hA (m_laysOrders l D k hm Ma Mn Ms My Mt Mp Mx Mo Mk Ml Mb Mh Mc Mz Mr Mq Mst Mtd Msz Mtk Mfr Men Mva Mfk Mfp Mfs Mse Mlt Mdp Mct Mdr Mrs Mit Mmk Mtp Mbt Af Kf Lf Bf Hf hM rgH) ci_X12_laysOrders qm_X12_330 ⟨Nat.le_of_ble_eq_true rfl, Nat.le_of_ble_eq_true rfl⟩ ⟨Nat.le_of_ble_eq_true rfl, Nat.le_of_ble_eq_true rfl⟩ [0, 1, 2, 3, 4, 5] [] rfl rfl rfl rfl rfl (by decide) 0 rfl rfl rfl hl.1 rfl (Nat.le_of_ble_eq_true rfl) dX12_disputes_1 (fun u_1 H locs hφ hP hD hS => ?_)
  obtain ⟨I_2, L_3, F_4, G_5⟩ := u_1
  have p_7 : rgI (F_4 3) 0 1000000 120 := hφ
  refine W.eq (g2 := F0 m 4 ls []) rfl ?_
  refine lv_iconst (v := iZ 0) hx hb dX12_disputes_4 (by decide) ?_
  refine lv_istore_n (lv' := [(1, .int (iZ 0)), (0, .ref hm)]) hx hb dX12_disputes_5 rfl hl (by decide) rfl (fun ls hl => ?_)
  refine lv_iconst (v := iZ 0) hx hb dX12_disputes_6 (by decide) ?_
  refine lv_istore_n (lv' := [(2, .int (iZ 0)), (1, .int (iZ 0)), (0, .ref hm)]) hx hb dX12_disputes_7 rfl hl (by decide) rfl (fun ls hl => ?_)
  have HL8 : ∀ (fu : Nat) (v1_8 : Int) (v2_8 : Int) (H : Heap) (locs : List Loc) (ls : Array Slot), ((gz Af 4) + 2 - v2_8) < (fu : Int) → ((0 ≤ v2_8 ∧ v2_8 ≤ (gz Af 4) + 1)) → va_P D vwCl [(hm, .inr (12, [.ref Ma, .ref Mn, .int (iZ Mst), .long Mtp, .long Mbt, .ref Ms, .ref My, .ref Mt, .ref Mp, .ref Mx, .int (iZ Mtd), .int (iZ Msz), .int (iZ Mtk), .int (iZ Mfr), .int (iZ Men), .int (iZ Mva), .int (iZ Mfk), .int (iZ Mfp), .int (iZ Mfs), .int (iZ Mse), .int (iZ Mlt), .ref Mo, .int (iZ Mdp), .int (iZ Mct), .ref Mk, .ref Ml, .ref Mb, .ref Mh, .ref Mc, .int (iZ Mdr), .int (iZ Mrs), .ref Mz, .ref Mr, .ref Mq, .int (iZ Mit), .int (iZ Mmk)])), (Ma, .inl (k 1, 5340, .inl Af)), (Mk, .inl (k 1, 6, .inl (F_4 0))), (Ml, .inl (k 1, 6, .inl (F_4 1))), (Mb, .inl (k 1, 6, .inl (F_4 2))), (Mh, .inl (k 1, 120, .inl (F_4 3)))] H → va_D A [(hm, .inr (12, [.ref Ma, .ref Mn, .int (iZ Mst), .long Mtp, .long Mbt, .ref Ms, .ref My, .ref Mt, .ref Mp, .ref Mx, .int (iZ Mtd), .int (iZ Msz), .int (iZ Mtk), .int (iZ Mfr), .int (iZ Men), .int (iZ Mva), .int (iZ Mfk), .int (iZ Mfp), .int (iZ Mfs), .int (iZ Mse), .int (iZ Mlt), .ref Mo, .int (iZ Mdp), .int (iZ Mct), .ref Mk, .ref Ml, .ref Mb, .ref Mh, .ref Mc, .int (iZ Mdr), .int (iZ Mrs), .ref Mz, .ref Mr, .ref Mq, .int (iZ Mit), .int (iZ Mmk)])), (Ma, .inl (k 1, 5340, .inl Af)), (Mk, .inl (k 1, 6, .inl (F_4 0))), (Ml, .inl (k 1, 6, .inl (F_4 1))), (Mb, .inl (k 1, 6, .inl (F_4 2))), (Mh, .inl (k 1, 120, .inl (F_4 3)))] → va_S A s.heap H locs → lv_has ls 4 [(2, .int (iZ v2_8)), (1, .int (iZ v1_8)), (0, .ref hm)] → W p l e (rj 8 0 0) s m [.ref hm].toArray below meth c H locs 0 0 (MQ below (QW (σ := ((Nat → Int) × (Nat → Int64) × (Nat → Nat → Int32) × (Nat → Nat → Int64))) (fun u => some (.int (iZ (u.1 0)))) (fun u => rgI (u.2.2.1 3) 0 1000000 120) (fun u => [(hm, .inr (12, [.ref Ma, .ref Mn, .int (iZ (u.1 1)), .long Mtp, .long Mbt, .ref Ms, .ref My, .ref Mt, .ref Mp, .ref Mx, .int (iZ Mtd), .int (iZ Msz), .int (iZ Mtk), .int (iZ Mfr), .int (iZ Men), .int (iZ Mva), .int (iZ Mfk), .int (iZ Mfp), .int (iZ Mfs), .int (iZ Mse), .int (iZ Mlt), .ref Mo, .int (iZ Mdp), .int (iZ Mct), .ref Mk, .ref Ml, .ref Mb, .ref Mh, .ref Mc, .int (iZ Mdr), .int (iZ Mrs), .ref Mz, .ref Mr, .ref Mq, .int (iZ Mit), .int (iZ Mmk)])), (Ma, .inl (k 1, 5340, .inl Af)), (Mk, .inl (k 1, 6, .inl (u.2.2.1 0))), (Ml, .inl (k 1, 6, .inl (u.2.2.1 1))), (Mb, .inl (k 1, 6, .inl (u.2.2.1 2))), (Mh, .inl (k 1, 120, .inl (u.2.2.1 3)))]) D A) [.ref hm].toArray s 0 0 A) (F0 m 8 ls []) := by
    intro fu
    induction fu with
    | zero => intro v1_8 v2_8 H locs ls hμ8 hi8 hP hD hS hl; exact absurd hμ8 (by omega)
    | succ fu ih8 =>
      intro v1_8 v2_8 H locs ls hμ8 hi8 hP hD hS hl
      refine lv_iload_n hx hb dX12_disputes_8 rfl (lv_at hl 0 rfl) ?_
      refine lv_aload_n hx hb dX12_disputes_9 rfl (lv_at hl 2 rfl) ?_
      refine va_get (D := D) (ci := 12) (v := .ref Ma) (C := RX12) (T := TX12) (N := 36) hx hb hts iX12 hown hK hP 0 rfl rfl 0 (by decide) (hts _ qf_X12_7) (fun _ h => h) rfl dX12_disputes_10 ?_
      refine lv_iconst (v := iZ 4) hx hb dX12_disputes_13 (by decide) ?_
      refine va_iald hx hb hK hP 1 1 rfl rfl (zin (e := 4) (n := 5340) ⟨by omega, by omega⟩ (by decide)) dX12_disputes_14 ?_
      refine lv_topi (fun x_8 ex_8 => ?_)
      obtain rfl : x_8 = iZ (gz Af 4) := ex_8.trans (gz_eq ⟨by omega, by omega⟩)
      have h_9 := gz_rg Af 4
      refine lv_icmp_ge (tgt := 54) hx hb dX12_disputes_15 (by decide) (fun c_10 => ?_) (fun c_10 => ?_)
      ·
        have c_10 := (zle (x := iZ (gz Af 4)) (y := iZ v2_8) rfl rfl ⟨by omega, by omega⟩ ⟨by omega, by omega⟩).mp c_10
        refine lv_aload_n hx hb dX12_disputes_54 rfl (lv_at hl 2 rfl) ?_
        refine lv_iload_n hx hb dX12_disputes_55 rfl (lv_at hl 1 rfl) ?_
        refine CWV (As := [.int (iZ v1_8)]) (rest := []) (wc := [(hm, .inr (12, [.ref Ma, .ref Mn, .int (iZ Mst), .long Mtp, .long Mbt, .ref Ms, .ref My, .ref Mt, .ref Mp, .ref Mx, .int (iZ Mtd), .int (iZ Msz), .int (iZ Mtk), .int (iZ Mfr), .int (iZ Men), .int (iZ Mva), .int (iZ Mfk), .int (iZ Mfp), .int (iZ Mfs), .int (iZ Mse), .int (iZ Mlt), .ref Mo, .int (iZ Mdp), .int (iZ Mct), .ref Mk, .ref Ml, .ref Mb, .ref Mh, .ref Mc, .int (iZ Mdr), .int (iZ Mrs), .ref Mz, .ref Mr, .ref Mq, .int (iZ Mit), .int (iZ Mmk)]))]) (wr := [(Ma, .inl (k 1, 5340, .inl Af)), (Mk, .inl (k 1, 6, .inl (F_4 0))), (Ml, .inl (k 1, 6, .inl (F_4 1))), (Mb, .inl (k 1, 6, .inl (F_4 2))), (Mh, .inl (k 1, 120, .inl (F_4 3)))]) hx hb hml hown hts hKK hP hD hS hA (m_gives l D k hm Ma Mn Ms My Mt Mp Mx Mo Mk Ml Mb Mh Mc Mz Mr Mq Mst Mtd Msz Mtk Mfr Men Mva Mfk Mfp Mfs Mse Mlt Mdp Mct Mdr Mrs Mit Mmk Mtp Mbt v1_8) ci_X12_gives qm_X12_85 ⟨Nat.le_of_ble_eq_true rfl, Nat.le_of_ble_eq_true rfl⟩ ⟨Nat.le_of_ble_eq_true rfl, Nat.le_of_ble_eq_true rfl⟩ [0] [1, 2, 3, 4, 5] rfl rfl rfl rfl rfl (by decide) 0 rfl rfl rfl hl.1 rfl (Nat.le_of_ble_eq_true rfl) dX12_disputes_56 (fun u_11 H locs hφ hP hD hS => ?_)
        obtain ⟨I_12, L_13, F_14, G_15⟩ := u_11
        refine W.eq (g2 := F0 m 59 ls [.int (iZ v1_8)]) rfl ?_
        exact EWi hx hb hr hlocks hS (fun i => [v1_8, 0].getD i 0, fun i => [0].getD i 0, fun i => [(F_4 0), (F_4 1), (F_4 2), (F_4 3)].getD i (fun _ => 0), fun i => [].getD i (fun _ => 0)) rfl (show rgI (F_4 3) 0 1000000 120 from p_7) (hP.sub [5, 0, 1, 2, 3, 4] rfl) (hD.sub [5, 0, 1, 2, 3, 4] rfl rfl) dX12_disputes_59
      ·
        have c_10 := mt (zle (x := iZ (gz Af 4)) (y := iZ v2_8) rfl rfl ⟨by omega, by omega⟩ ⟨by omega, by omega⟩).mpr c_10
        refine lv_iconst (v := iZ 0) hx hb dX12_disputes_18 (by decide) ?_
        refine lv_istore_n (lv' := [(3, .int (iZ 0)), (2, .int (iZ v2_8)), (1, .int (iZ v1_8)), (0, .ref hm)]) hx hb dX12_disputes_19 rfl hl (by decide) rfl (fun ls hl => ?_)
        have HL20 : ∀ (fu : Nat) (v1_20 : Int) (v3_20 : Int) (H : Heap) (locs : List Loc) (ls : Array Slot), ((gz Af 4) + 2 - v3_20) < (fu : Int) → ((0 ≤ v3_20 ∧ v3_20 ≤ (gz Af 4) + 1)) → (0 ≤ v2_8 ∧ v2_8 < gz Af 4) → va_P D vwCl [(hm, .inr (12, [.ref Ma, .ref Mn, .int (iZ Mst), .long Mtp, .long Mbt, .ref Ms, .ref My, .ref Mt, .ref Mp, .ref Mx, .int (iZ Mtd), .int (iZ Msz), .int (iZ Mtk), .int (iZ Mfr), .int (iZ Men), .int (iZ Mva), .int (iZ Mfk), .int (iZ Mfp), .int (iZ Mfs), .int (iZ Mse), .int (iZ Mlt), .ref Mo, .int (iZ Mdp), .int (iZ Mct), .ref Mk, .ref Ml, .ref Mb, .ref Mh, .ref Mc, .int (iZ Mdr), .int (iZ Mrs), .ref Mz, .ref Mr, .ref Mq, .int (iZ Mit), .int (iZ Mmk)])), (Ma, .inl (k 1, 5340, .inl Af)), (Mk, .inl (k 1, 6, .inl (F_4 0))), (Ml, .inl (k 1, 6, .inl (F_4 1))), (Mb, .inl (k 1, 6, .inl (F_4 2))), (Mh, .inl (k 1, 120, .inl (F_4 3)))] H → va_D A [(hm, .inr (12, [.ref Ma, .ref Mn, .int (iZ Mst), .long Mtp, .long Mbt, .ref Ms, .ref My, .ref Mt, .ref Mp, .ref Mx, .int (iZ Mtd), .int (iZ Msz), .int (iZ Mtk), .int (iZ Mfr), .int (iZ Men), .int (iZ Mva), .int (iZ Mfk), .int (iZ Mfp), .int (iZ Mfs), .int (iZ Mse), .int (iZ Mlt), .ref Mo, .int (iZ Mdp), .int (iZ Mct), .ref Mk, .ref Ml, .ref Mb, .ref Mh, .ref Mc, .int (iZ Mdr), .int (iZ Mrs), .ref Mz, .ref Mr, .ref Mq, .int (iZ Mit), .int (iZ Mmk)])), (Ma, .inl (k 1, 5340, .inl Af)), (Mk, .inl (k 1, 6, .inl (F_4 0))), (Ml, .inl (k 1, 6, .inl (F_4 1))), (Mb, .inl (k 1, 6, .inl (F_4 2))), (Mh, .inl (k 1, 120, .inl (F_4 3)))] → va_S A s.heap H locs → lv_has ls 4 [(3, .int (iZ v3_20)), (2, .int (iZ v2_8)), (1, .int (iZ v1_20)), (0, .ref hm)] → W p l e (rj 8 0 0) s m [.ref hm].toArray below meth c H locs 0 0 (MQ below (QW (σ := ((Nat → Int) × (Nat → Int64) × (Nat → Nat → Int32) × (Nat → Nat → Int64))) (fun u => some (.int (iZ (u.1 0)))) (fun u => rgI (u.2.2.1 3) 0 1000000 120) (fun u => [(hm, .inr (12, [.ref Ma, .ref Mn, .int (iZ (u.1 1)), .long Mtp, .long Mbt, .ref Ms, .ref My, .ref Mt, .ref Mp, .ref Mx, .int (iZ Mtd), .int (iZ Msz), .int (iZ Mtk), .int (iZ Mfr), .int (iZ Men), .int (iZ Mva), .int (iZ Mfk), .int (iZ Mfp), .int (iZ Mfs), .int (iZ Mse), .int (iZ Mlt), .ref Mo, .int (iZ Mdp), .int (iZ Mct), .ref Mk, .ref Ml, .ref Mb, .ref Mh, .ref Mc, .int (iZ Mdr), .int (iZ Mrs), .ref Mz, .ref Mr, .ref Mq, .int (iZ Mit), .int (iZ Mmk)])), (Ma, .inl (k 1, 5340, .inl Af)), (Mk, .inl (k 1, 6, .inl (u.2.2.1 0))), (Ml, .inl (k 1, 6, .inl (u.2.2.1 1))), (Mb, .inl (k 1, 6, .inl (u.2.2.1 2))), (Mh, .inl (k 1, 120, .inl (u.2.2.1 3)))]) D A) [.ref hm].toArray s 0 0 A) (F0 m 20 ls []) := by
          intro fu
          induction fu with
          | zero => intro v1_20 v3_20 H locs ls hμ20 hi20 hf0_20 hP hD hS hl; exact absurd hμ20 (by omega)
          | succ fu ih20 =>
            intro v1_20 v3_20 H locs ls hμ20 hi20 hf0_20 hP hD hS hl
            refine lv_iload_n hx hb dX12_disputes_20 rfl (lv_at hl 0 rfl) ?_
            refine lv_iload_n hx hb dX12_disputes_21 rfl (lv_at hl 1 rfl) ?_
            refine lv_icmp_ge (tgt := 48) hx hb dX12_disputes_22 (by decide) (fun c_17 => ?_) (fun c_17 => ?_)
            ·
              have c_17 := (zle (x := iZ v2_8) (y := iZ v3_20) rfl rfl ⟨by omega, by omega⟩ ⟨by omega, by omega⟩).mp c_17
              refine lv_iinc (v := iZ (v2_8 + 1)) (lv' := [(2, .int (iZ (v2_8 + 1))), (3, .int (iZ v3_20)), (1, .int (iZ v1_20)), (0, .ref hm)]) hx hb dX12_disputes_48 hl (k := 1) rfl (iZ_add v2_8 1) (by decide) rfl (fun ls hl => ?_)
              refine lv_goto (tgt := 8) hx hb dX12_disputes_51 (by decide) ?_
              exact ih8  v1_20 (v2_8 + 1) _ _ _ (by omega) (show (0 ≤ (v2_8 + 1) ∧ (v2_8 + 1) ≤ (gz Af 4) + 1) from ⟨by omega, by omega⟩) (hP.sub [0, 1, 2, 3, 4, 5] rfl) (hD.sub [0, 1, 2, 3, 4, 5] rfl rfl) hS (lv_sub hl [0, 2, 3] rfl)
            ·
              have c_17 := mt (zle (x := iZ v2_8) (y := iZ v3_20) rfl rfl ⟨by omega, by omega⟩ ⟨by omega, by omega⟩).mpr c_17
              refine lv_iload_n hx hb dX12_disputes_25 rfl (lv_at hl 2 rfl) ?_
              refine lv_aload_n hx hb dX12_disputes_26 rfl (lv_at hl 3 rfl) ?_
              refine lv_iload_n hx hb dX12_disputes_27 rfl (lv_at hl 1 rfl) ?_
              refine lv_iload_n hx hb dX12_disputes_28 rfl (lv_at hl 0 rfl) ?_
              refine CPV (As := [.int (iZ v2_8), .int (iZ v3_20)]) (rest := [.int (iZ v1_20)]) hx hb hml hown hts hKK (hP.sub (ws' := [(hm, .inr (12, [.ref Ma, .ref Mn, .int (iZ Mst), .long Mtp, .long Mbt, .ref Ms, .ref My, .ref Mt, .ref Mp, .ref Mx, .int (iZ Mtd), .int (iZ Msz), .int (iZ Mtk), .int (iZ Mfr), .int (iZ Men), .int (iZ Mva), .int (iZ Mfk), .int (iZ Mfp), .int (iZ Mfs), .int (iZ Mse), .int (iZ Mlt), .ref Mo, .int (iZ Mdp), .int (iZ Mct), .ref Mk, .ref Ml, .ref Mb, .ref Mh, .ref Mc, .int (iZ Mdr), .int (iZ Mrs), .ref Mz, .ref Mr, .ref Mq, .int (iZ Mit), .int (iZ Mmk)])), (Ma, .inl (k 1, 5340, .inl Af)), (Mh, .inl (k 1, 120, .inl (F_4 3)))]) [0, 1, 5] rfl) (m_isOne l D k ([.ref Ma, .ref Mn, .int (iZ Mst), .long Mtp, .long Mbt, .ref Ms, .ref My, .ref Mt, .ref Mp, .ref Mx, .int (iZ Mtd), .int (iZ Msz), .int (iZ Mtk), .int (iZ Mfr), .int (iZ Men), .int (iZ Mva), .int (iZ Mfk), .int (iZ Mfp), .int (iZ Mfs), .int (iZ Mse), .int (iZ Mlt), .ref Mo, .int (iZ Mdp), .int (iZ Mct), .ref Mk, .ref Ml, .ref Mb, .ref Mh, .ref Mc, .int (iZ Mdr), .int (iZ Mrs), .ref Mz, .ref Mr, .ref Mq, .int (iZ Mit), .int (iZ Mmk)]) hm Ma Mh Af (F_4 3) v2_8 v3_20 rfl rfl hM ⟨by omega, by omega⟩ ⟨by omega, by omega⟩ p_7) ci_X12_isOne qm_X12_339 ⟨Nat.le_of_ble_eq_true rfl, Nat.le_of_ble_eq_true rfl⟩ ⟨Nat.le_of_ble_eq_true rfl, Nat.le_of_ble_eq_true rfl⟩ 0 rfl rfl rfl hl.1 rfl (Nat.le_of_ble_eq_true rfl) dX12_disputes_29 (fun z_18 hz_18 => ?_)
              refine lv_if_eq (tgt := 39) hx hb dX12_disputes_32 (by decide) (fun c_19 => ?_) (fun c_19 => ?_)
              ·
                have c_19 := (zeq (x := iZ z_18) (y := iZ 0) rfl rfl ⟨by omega, by omega⟩ ⟨by omega, by omega⟩).mp c_19
                refine lv_iconst (v := iZ 1) hx hb dX12_disputes_39 (by decide) ?_
                refine lv_iadd hx hb dX12_disputes_40 ?_
                refine lv_topi (fun x_20 ex_20 => ?_)
                obtain rfl : x_20 = iZ (v1_20 + 1) := ex_20.trans (iZ_add v1_20 1)
                refine lv_istore_n (lv' := [(1, .int (iZ (v1_20 + 1))), (3, .int (iZ v3_20)), (2, .int (iZ v2_8)), (0, .ref hm)]) hx hb dX12_disputes_41 rfl hl (by decide) rfl (fun ls hl => ?_)
                refine lv_iinc (v := iZ (v3_20 + 1)) (lv' := [(3, .int (iZ (v3_20 + 1))), (1, .int (iZ (v1_20 + 1))), (2, .int (iZ v2_8)), (0, .ref hm)]) hx hb dX12_disputes_42 hl (k := 1) rfl (iZ_add v3_20 1) (by decide) rfl (fun ls hl => ?_)
                refine lv_goto (tgt := 20) hx hb dX12_disputes_45 (by decide) ?_
                exact ih20  (v1_20 + 1) (v3_20 + 1) _ _ _ (by omega) (show (0 ≤ (v3_20 + 1) ∧ (v3_20 + 1) ≤ (gz Af 4) + 1) from ⟨by omega, by omega⟩) (show 0 ≤ v2_8 ∧ v2_8 < gz Af 4 from (by omega)) (hP.sub [0, 1, 2, 3, 4, 5] rfl) (hD.sub [0, 1, 2, 3, 4, 5] rfl rfl) hS (lv_sub hl [0, 2, 1, 3] rfl)
              ·
                have c_19 := mt (zeq (x := iZ z_18) (y := iZ 0) rfl rfl ⟨by omega, by omega⟩ ⟨by omega, by omega⟩).mpr c_19
                refine lv_iconst (v := iZ 0) hx hb dX12_disputes_35 (by decide) ?_
                refine lv_goto (tgt := 40) hx hb dX12_disputes_36 (by decide) ?_
                refine lv_iadd hx hb dX12_disputes_40 ?_
                refine lv_topi (fun x_21 ex_21 => ?_)
                obtain rfl : x_21 = iZ (v1_20 + 0) := ex_21.trans (iZ_add v1_20 0)
                refine lv_istore_n (lv' := [(1, .int (iZ (v1_20 + 0))), (3, .int (iZ v3_20)), (2, .int (iZ v2_8)), (0, .ref hm)]) hx hb dX12_disputes_41 rfl hl (by decide) rfl (fun ls hl => ?_)
                refine lv_iinc (v := iZ (v3_20 + 1)) (lv' := [(3, .int (iZ (v3_20 + 1))), (1, .int (iZ (v1_20 + 0))), (2, .int (iZ v2_8)), (0, .ref hm)]) hx hb dX12_disputes_42 hl (k := 1) rfl (iZ_add v3_20 1) (by decide) rfl (fun ls hl => ?_)
                refine lv_goto (tgt := 20) hx hb dX12_disputes_45 (by decide) ?_
                exact ih20  (v1_20 + 0) (v3_20 + 1) _ _ _ (by omega) (show (0 ≤ (v3_20 + 1) ∧ (v3_20 + 1) ≤ (gz Af 4) + 1) from ⟨by omega, by omega⟩) (show 0 ≤ v2_8 ∧ v2_8 < gz Af 4 from (by omega)) (hP.sub [0, 1, 2, 3, 4, 5] rfl) (hD.sub [0, 1, 2, 3, 4, 5] rfl rfl) hS (lv_sub hl [0, 2, 1, 3] rfl)
        exact HL20 24 v1_8 0 _ _ _ (by omega) (show (0 ≤ 0 ∧ 0 ≤ (gz Af 4) + 1) from ⟨by omega, by omega⟩) (show 0 ≤ v2_8 ∧ v2_8 < gz Af 4 from (by omega)) (hP.sub [0, 1, 2, 3, 4, 5] rfl) (hD.sub [0, 1, 2, 3, 4, 5] rfl rfl) hS (lv_sub hl [0, 1, 2, 3] rfl)
  exact HL8 24 0 0 _ _ _ (by omega) (show (0 ≤ 0 ∧ 0 ≤ (gz Af 4) + 1) from ⟨by omega, by omega⟩) (hP.sub [0, 1, 2, 3, 4, 5] rfl) (hD.sub [0, 1, 2, 3, 4, 5] rfl rfl) hS (lv_sub hl [0, 1, 2] rfl)
set_option maxHeartbeats 4000000 in
set_option maxRecDepth 100000 in
theorem q_peace (l : Launch) (D : va_G) (k : Nat → ClassId) (hm : Nat) (Ma : Nat) (Mn : Nat) (Ms : Nat) (My : Nat) (Mt : Nat) (Mp : Nat) (Mx : Nat) (Mo : Nat) (Mk : Nat) (Ml : Nat) (Mb : Nat) (Mh : Nat) (Mc : Nat) (Mz : Nat) (Mr : Nat) (Mq : Nat) (Mst : Int) (Mtd : Int) (Msz : Int) (Mtk : Int) (Mfr : Int) (Men : Int) (Mva : Int) (Mfk : Int) (Mfp : Int) (Mfs : Int) (Mse : Int) (Mlt : Int) (Mdp : Int) (Mct : Int) (Mdr : Int) (Mrs : Int) (Mit : Int) (Mmk : Int) (Mtp : Int64) (Mbt : Int64) (Af : Nat → Int32) (Kf : Nat → Int32) (Lf : Nat → Int32) (Bf : Nat → Int32) (Hf : Nat → Int32) (x1 : Int) (hM : M0 Af) (rgH : rgI Hf 0 1000000 120) (h9x1 : -2147483648 ≤ x1 ∧ x1 < 2147483648) : WD (σ := ((Nat → Int) × (Nat → Int64) × (Nat → Nat → Int32) × (Nat → Nat → Int64))) l yX12_peace cX12_peace 5 (some .int) 8 0 0 D k [.ref hm, .int (iZ x1)] [(hm, .inr (12, [.ref Ma, .ref Mn, .int (iZ Mst), .long Mtp, .long Mbt, .ref Ms, .ref My, .ref Mt, .ref Mp, .ref Mx, .int (iZ Mtd), .int (iZ Msz), .int (iZ Mtk), .int (iZ Mfr), .int (iZ Men), .int (iZ Mva), .int (iZ Mfk), .int (iZ Mfp), .int (iZ Mfs), .int (iZ Mse), .int (iZ Mlt), .ref Mo, .int (iZ Mdp), .int (iZ Mct), .ref Mk, .ref Ml, .ref Mb, .ref Mh, .ref Mc, .int (iZ Mdr), .int (iZ Mrs), .ref Mz, .ref Mr, .ref Mq, .int (iZ Mit), .int (iZ Mmk)])), (Ma, .inl (k 1, 5340, .inl Af)), (Mk, .inl (k 1, 6, .inl Kf)), (Ml, .inl (k 1, 6, .inl Lf)), (Mb, .inl (k 1, 6, .inl Bf)), (Mh, .inl (k 1, 120, .inl Hf))] (fun u => some (.int (iZ (u.1 0)))) (fun u => rgI (u.2.2.1 3) 0 1000000 120) (fun u => [(hm, .inr (12, [.ref Ma, .ref Mn, .int (iZ (u.1 1)), .long Mtp, .long Mbt, .ref Ms, .ref My, .ref Mt, .ref Mp, .ref Mx, .int (iZ Mtd), .int (iZ Msz), .int (iZ Mtk), .int (iZ Mfr), .int (iZ Men), .int (iZ Mva), .int (iZ Mfk), .int (iZ Mfp), .int (iZ Mfs), .int (iZ Mse), .int (iZ Mlt), .ref Mo, .int (iZ Mdp), .int (iZ Mct), .ref Mk, .ref Ml, .ref Mb, .ref Mh, .ref Mc, .int (iZ Mdr), .int (iZ Mrs), .ref Mz, .ref Mr, .ref Mq, .int (iZ Mit), .int (iZ Mmk)])), (Ma, .inl (k 1, 5340, .inl Af)), (Mk, .inl (k 1, 6, .inl (u.2.2.1 0))), (Ml, .inl (k 1, 6, .inl (u.2.2.1 1))), (Mb, .inl (k 1, 6, .inl (u.2.2.1 2))), (Mh, .inl (k 1, 120, .inl (u.2.2.1 3)))]) := by
  refine MW (by decide) (Nat.le_of_ble_eq_true rfl) (fun p e s m below meth c ls A hx hb hml hr hlocks hin hts hown hKK hP hD hS hA hl => ?_)
  have hK := hKK.1
  have hl : lv_has ls 5 [(0, .ref hm), (1, .int (iZ x1))] := hl
  obtain ⟨m0, m1, m3, m4, m5, mF, mO, mS⟩ := id hM
  refine lv_iload_n hx hb dX12_peace_0 rfl (lv_at hl 1 rfl) ?_
  refine CPS (As := [.int (iZ x1)]) (rest := []) hx hb hml hown hts hKK (hP.sub (ws' := []) [] rfl) (m_isAsked l D k x1 ⟨by omega, by omega⟩) ci_X12_isAsked qm_X12_258 ⟨Nat.le_of_ble_eq_true rfl, Nat.le_of_ble_eq_true rfl⟩ ⟨Nat.le_of_ble_eq_true rfl, Nat.le_of_ble_eq_true rfl⟩ rfl hl.1 rfl (Nat.le_of_ble_eq_true rfl) dX12_peace_1 (fun z_1 hz_1 => ?_)
  rcases hz_1 with ⟨qz_1, hz_1⟩ | ⟨qz_1, hz_1⟩
  ·
    subst qz_1
    refine lv_if_ne (tgt := 13) hx hb dX12_peace_4 (by decide) (fun _ => ?_) (fun c => absurd c (by decide))
    refine lv_aload_n hx hb dX12_peace_13 rfl (lv_at hl 0 rfl) ?_
    refine CWV (As := []) (rest := []) (wc := [(hm, .inr (12, [.ref Ma, .ref Mn, .int (iZ Mst), .long Mtp, .long Mbt, .ref Ms, .ref My, .ref Mt, .ref Mp, .ref Mx, .int (iZ Mtd), .int (iZ Msz), .int (iZ Mtk), .int (iZ Mfr), .int (iZ Men), .int (iZ Mva), .int (iZ Mfk), .int (iZ Mfp), .int (iZ Mfs), .int (iZ Mse), .int (iZ Mlt), .ref Mo, .int (iZ Mdp), .int (iZ Mct), .ref Mk, .ref Ml, .ref Mb, .ref Mh, .ref Mc, .int (iZ Mdr), .int (iZ Mrs), .ref Mz, .ref Mr, .ref Mq, .int (iZ Mit), .int (iZ Mmk)])), (Ma, .inl (k 1, 5340, .inl Af)), (Mk, .inl (k 1, 6, .inl Kf)), (Ml, .inl (k 1, 6, .inl Lf)), (Mb, .inl (k 1, 6, .inl Bf)), (Mh, .inl (k 1, 120, .inl Hf))]) (wr := []) hx hb hml hown hts hKK hP hD hS hA (m_laysOrders l D k hm Ma Mn Ms My Mt Mp Mx Mo Mk Ml Mb Mh Mc Mz Mr Mq Mst Mtd Msz Mtk Mfr Men Mva Mfk Mfp Mfs Mse Mlt Mdp Mct Mdr Mrs Mit Mmk Mtp Mbt Af Kf Lf Bf Hf hM rgH) ci_X12_laysOrders qm_X12_330 ⟨Nat.le_of_ble_eq_true rfl, Nat.le_of_ble_eq_true rfl⟩ ⟨Nat.le_of_ble_eq_true rfl, Nat.le_of_ble_eq_true rfl⟩ [0, 1, 2, 3, 4, 5] [] rfl rfl rfl rfl rfl (by decide) 0 rfl rfl rfl hl.1 rfl (Nat.le_of_ble_eq_true rfl) dX12_peace_14 (fun u_3 H locs hφ hP hD hS => ?_)
    obtain ⟨I_4, L_5, F_6, G_7⟩ := u_3
    have p_9 : rgI (F_6 3) 0 1000000 120 := hφ
    refine W.eq (g2 := F0 m 17 ls []) rfl ?_
    refine lv_iload_n hx hb dX12_peace_17 rfl (lv_at hl 1 rfl) ?_
    refine lv_istore_n (lv' := [(2, .int (iZ x1)), (0, .ref hm), (1, .int (iZ x1))]) hx hb dX12_peace_18 rfl hl (by decide) rfl (fun ls hl => ?_)
    have HL19 : ∀ (fu : Nat) (v2_19 : Int) (H : Heap) (locs : List Loc) (ls : Array Slot), ((500) + 2 - v2_19) < (fu : Int) → ((x1 ≤ v2_19 ∧ v2_19 ≤ (500) + 1)) → va_P D vwCl [(hm, .inr (12, [.ref Ma, .ref Mn, .int (iZ Mst), .long Mtp, .long Mbt, .ref Ms, .ref My, .ref Mt, .ref Mp, .ref Mx, .int (iZ Mtd), .int (iZ Msz), .int (iZ Mtk), .int (iZ Mfr), .int (iZ Men), .int (iZ Mva), .int (iZ Mfk), .int (iZ Mfp), .int (iZ Mfs), .int (iZ Mse), .int (iZ Mlt), .ref Mo, .int (iZ Mdp), .int (iZ Mct), .ref Mk, .ref Ml, .ref Mb, .ref Mh, .ref Mc, .int (iZ Mdr), .int (iZ Mrs), .ref Mz, .ref Mr, .ref Mq, .int (iZ Mit), .int (iZ Mmk)])), (Ma, .inl (k 1, 5340, .inl Af)), (Mk, .inl (k 1, 6, .inl (F_6 0))), (Ml, .inl (k 1, 6, .inl (F_6 1))), (Mb, .inl (k 1, 6, .inl (F_6 2))), (Mh, .inl (k 1, 120, .inl (F_6 3)))] H → va_D A [(hm, .inr (12, [.ref Ma, .ref Mn, .int (iZ Mst), .long Mtp, .long Mbt, .ref Ms, .ref My, .ref Mt, .ref Mp, .ref Mx, .int (iZ Mtd), .int (iZ Msz), .int (iZ Mtk), .int (iZ Mfr), .int (iZ Men), .int (iZ Mva), .int (iZ Mfk), .int (iZ Mfp), .int (iZ Mfs), .int (iZ Mse), .int (iZ Mlt), .ref Mo, .int (iZ Mdp), .int (iZ Mct), .ref Mk, .ref Ml, .ref Mb, .ref Mh, .ref Mc, .int (iZ Mdr), .int (iZ Mrs), .ref Mz, .ref Mr, .ref Mq, .int (iZ Mit), .int (iZ Mmk)])), (Ma, .inl (k 1, 5340, .inl Af)), (Mk, .inl (k 1, 6, .inl (F_6 0))), (Ml, .inl (k 1, 6, .inl (F_6 1))), (Mb, .inl (k 1, 6, .inl (F_6 2))), (Mh, .inl (k 1, 120, .inl (F_6 3)))] → va_S A s.heap H locs → lv_has ls 5 [(2, .int (iZ v2_19)), (0, .ref hm), (1, .int (iZ x1))] → W p l e (rj 8 0 0) s m [.ref hm, .int (iZ x1)].toArray below meth c H locs 0 0 (MQ below (QW (σ := ((Nat → Int) × (Nat → Int64) × (Nat → Nat → Int32) × (Nat → Nat → Int64))) (fun u => some (.int (iZ (u.1 0)))) (fun u => rgI (u.2.2.1 3) 0 1000000 120) (fun u => [(hm, .inr (12, [.ref Ma, .ref Mn, .int (iZ (u.1 1)), .long Mtp, .long Mbt, .ref Ms, .ref My, .ref Mt, .ref Mp, .ref Mx, .int (iZ Mtd), .int (iZ Msz), .int (iZ Mtk), .int (iZ Mfr), .int (iZ Men), .int (iZ Mva), .int (iZ Mfk), .int (iZ Mfp), .int (iZ Mfs), .int (iZ Mse), .int (iZ Mlt), .ref Mo, .int (iZ Mdp), .int (iZ Mct), .ref Mk, .ref Ml, .ref Mb, .ref Mh, .ref Mc, .int (iZ Mdr), .int (iZ Mrs), .ref Mz, .ref Mr, .ref Mq, .int (iZ Mit), .int (iZ Mmk)])), (Ma, .inl (k 1, 5340, .inl Af)), (Mk, .inl (k 1, 6, .inl (u.2.2.1 0))), (Ml, .inl (k 1, 6, .inl (u.2.2.1 1))), (Mb, .inl (k 1, 6, .inl (u.2.2.1 2))), (Mh, .inl (k 1, 120, .inl (u.2.2.1 3)))]) D A) [.ref hm, .int (iZ x1)].toArray s 0 0 A) (F0 m 19 ls []) := by
      intro fu
      induction fu with
      | zero => intro v2_19 H locs ls hμ19 hi19 hP hD hS hl; exact absurd hμ19 (by omega)
      | succ fu ih19 =>
        intro v2_19 H locs ls hμ19 hi19 hP hD hS hl
        refine lv_iload_n hx hb dX12_peace_19 rfl (lv_at hl 0 rfl) ?_
        refine lv_sipush (v := iZ 500) hx hb dX12_peace_20 (by decide) ?_
        refine lv_icmp_gt (tgt := 114) hx hb dX12_peace_23 (by decide) (fun c_10 => ?_) (fun c_10 => ?_)
        ·
          have c_10 := (zlt (x := iZ 500) (y := iZ v2_19) rfl rfl ⟨by omega, by omega⟩ ⟨by omega, by omega⟩).mp c_10
          refine lv_aload_n hx hb dX12_peace_114 rfl (lv_at hl 1 rfl) ?_
          refine lv_bipush (v := iZ 6) hx hb dX12_peace_115 (by decide) ?_
          refine CWV (As := [.int (iZ 6)]) (rest := []) (wc := [(hm, .inr (12, [.ref Ma, .ref Mn, .int (iZ Mst), .long Mtp, .long Mbt, .ref Ms, .ref My, .ref Mt, .ref Mp, .ref Mx, .int (iZ Mtd), .int (iZ Msz), .int (iZ Mtk), .int (iZ Mfr), .int (iZ Men), .int (iZ Mva), .int (iZ Mfk), .int (iZ Mfp), .int (iZ Mfs), .int (iZ Mse), .int (iZ Mlt), .ref Mo, .int (iZ Mdp), .int (iZ Mct), .ref Mk, .ref Ml, .ref Mb, .ref Mh, .ref Mc, .int (iZ Mdr), .int (iZ Mrs), .ref Mz, .ref Mr, .ref Mq, .int (iZ Mit), .int (iZ Mmk)]))]) (wr := [(Ma, .inl (k 1, 5340, .inl Af)), (Mk, .inl (k 1, 6, .inl (F_6 0))), (Ml, .inl (k 1, 6, .inl (F_6 1))), (Mb, .inl (k 1, 6, .inl (F_6 2))), (Mh, .inl (k 1, 120, .inl (F_6 3)))]) hx hb hml hown hts hKK hP hD hS hA (m_refuse l D k hm Ma Mn Ms My Mt Mp Mx Mo Mk Ml Mb Mh Mc Mz Mr Mq Mst Mtd Msz Mtk Mfr Men Mva Mfk Mfp Mfs Mse Mlt Mdp Mct Mdr Mrs Mit Mmk Mtp Mbt 6) ci_X12_refuse qm_X12_81 ⟨Nat.le_of_ble_eq_true rfl, Nat.le_of_ble_eq_true rfl⟩ ⟨Nat.le_of_ble_eq_true rfl, Nat.le_of_ble_eq_true rfl⟩ [0] [1, 2, 3, 4, 5] rfl rfl rfl rfl rfl (by decide) 0 rfl rfl rfl hl.1 rfl (Nat.le_of_ble_eq_true rfl) dX12_peace_117 (fun u_11 H locs hφ hP hD hS => ?_)
          obtain ⟨I_12, L_13, F_14, G_15⟩ := u_11
          refine W.eq (g2 := F0 m 120 ls [.int (iZ (-1))]) rfl ?_
          exact EWi hx hb hr hlocks hS (fun i => [(-1), 6].getD i 0, fun i => [0].getD i 0, fun i => [(F_6 0), (F_6 1), (F_6 2), (F_6 3)].getD i (fun _ => 0), fun i => [].getD i (fun _ => 0)) rfl (show rgI (F_6 3) 0 1000000 120 from p_9) (hP.sub [5, 0, 1, 2, 3, 4] rfl) (hD.sub [5, 0, 1, 2, 3, 4] rfl rfl) dX12_peace_120
        ·
          have c_10 := mt (zlt (x := iZ 500) (y := iZ v2_19) rfl rfl ⟨by omega, by omega⟩ ⟨by omega, by omega⟩).mpr c_10
          refine lv_aload_n hx hb dX12_peace_26 rfl (lv_at hl 1 rfl) ?_
          refine va_get (D := D) (ci := 12) (v := .ref Ma) (C := RX12) (T := TX12) (N := 36) hx hb hts iX12 hown hK hP 0 rfl rfl 0 (by decide) (hts _ qf_X12_7) (fun _ h => h) rfl dX12_peace_27 ?_
          refine lv_iconst (v := iZ 0) hx hb dX12_peace_30 (by decide) ?_
          refine va_iald hx hb hK hP 1 1 rfl rfl (zin (e := 0) (n := 5340) ⟨by omega, by omega⟩ (by decide)) dX12_peace_31 ?_
          refine lv_topi (fun x_17 ex_17 => ?_)
          obtain rfl : x_17 = iZ (gz Af 0) := ex_17.trans (gz_eq ⟨by omega, by omega⟩)
          have h_18 := gz_rg Af 0
          refine lv_if_le (tgt := 39) hx hb dX12_peace_32 (by decide) (fun c_19 => ?_) (fun c_19 => ?_)
          ·
            have c_19 := (zle (x := iZ (gz Af 0)) (y := iZ 0) rfl rfl ⟨by omega, by omega⟩ ⟨by omega, by omega⟩).mp c_19
            refine lv_iconst (v := iZ 0) hx hb dX12_peace_39 (by decide) ?_
            refine lv_istore_n (lv' := [(3, .int (iZ 0)), (2, .int (iZ v2_19)), (0, .ref hm), (1, .int (iZ x1))]) hx hb dX12_peace_40 rfl hl (by decide) rfl (fun ls hl => ?_)
            refine lv_iconst (v := iZ 0) hx hb dX12_peace_41 (by decide) ?_
            refine lv_istore (lv' := [(4, .int (iZ 0)), (3, .int (iZ 0)), (2, .int (iZ v2_19)), (0, .ref hm), (1, .int (iZ x1))]) hx hb dX12_peace_42 hl (by decide) rfl (fun ls hl => ?_)
            have HL44 : ∀ (fu : Nat) (v3_44 : Int) (v4_44 : Int) (H : Heap) (locs : List Loc) (ls : Array Slot), ((gz Af 0) + 2 - v4_44) < (fu : Int) → ((0 ≤ v4_44 ∧ v4_44 ≤ (gz Af 0) + 1)) → (0 ≤ v3_44 ∧ v3_44 ≤ 1) → va_P D vwCl [(hm, .inr (12, [.ref Ma, .ref Mn, .int (iZ Mst), .long Mtp, .long Mbt, .ref Ms, .ref My, .ref Mt, .ref Mp, .ref Mx, .int (iZ Mtd), .int (iZ Msz), .int (iZ Mtk), .int (iZ Mfr), .int (iZ Men), .int (iZ Mva), .int (iZ Mfk), .int (iZ Mfp), .int (iZ Mfs), .int (iZ Mse), .int (iZ Mlt), .ref Mo, .int (iZ Mdp), .int (iZ Mct), .ref Mk, .ref Ml, .ref Mb, .ref Mh, .ref Mc, .int (iZ Mdr), .int (iZ Mrs), .ref Mz, .ref Mr, .ref Mq, .int (iZ Mit), .int (iZ Mmk)])), (Ma, .inl (k 1, 5340, .inl Af)), (Mk, .inl (k 1, 6, .inl (F_6 0))), (Ml, .inl (k 1, 6, .inl (F_6 1))), (Mb, .inl (k 1, 6, .inl (F_6 2))), (Mh, .inl (k 1, 120, .inl (F_6 3)))] H → va_D A [(hm, .inr (12, [.ref Ma, .ref Mn, .int (iZ Mst), .long Mtp, .long Mbt, .ref Ms, .ref My, .ref Mt, .ref Mp, .ref Mx, .int (iZ Mtd), .int (iZ Msz), .int (iZ Mtk), .int (iZ Mfr), .int (iZ Men), .int (iZ Mva), .int (iZ Mfk), .int (iZ Mfp), .int (iZ Mfs), .int (iZ Mse), .int (iZ Mlt), .ref Mo, .int (iZ Mdp), .int (iZ Mct), .ref Mk, .ref Ml, .ref Mb, .ref Mh, .ref Mc, .int (iZ Mdr), .int (iZ Mrs), .ref Mz, .ref Mr, .ref Mq, .int (iZ Mit), .int (iZ Mmk)])), (Ma, .inl (k 1, 5340, .inl Af)), (Mk, .inl (k 1, 6, .inl (F_6 0))), (Ml, .inl (k 1, 6, .inl (F_6 1))), (Mb, .inl (k 1, 6, .inl (F_6 2))), (Mh, .inl (k 1, 120, .inl (F_6 3)))] → va_S A s.heap H locs → lv_has ls 5 [(4, .int (iZ v4_44)), (3, .int (iZ v3_44)), (2, .int (iZ v2_19)), (0, .ref hm), (1, .int (iZ x1))] → W p l e (rj 8 0 0) s m [.ref hm, .int (iZ x1)].toArray below meth c H locs 0 0 (MQ below (QW (σ := ((Nat → Int) × (Nat → Int64) × (Nat → Nat → Int32) × (Nat → Nat → Int64))) (fun u => some (.int (iZ (u.1 0)))) (fun u => rgI (u.2.2.1 3) 0 1000000 120) (fun u => [(hm, .inr (12, [.ref Ma, .ref Mn, .int (iZ (u.1 1)), .long Mtp, .long Mbt, .ref Ms, .ref My, .ref Mt, .ref Mp, .ref Mx, .int (iZ Mtd), .int (iZ Msz), .int (iZ Mtk), .int (iZ Mfr), .int (iZ Men), .int (iZ Mva), .int (iZ Mfk), .int (iZ Mfp), .int (iZ Mfs), .int (iZ Mse), .int (iZ Mlt), .ref Mo, .int (iZ Mdp), .int (iZ Mct), .ref Mk, .ref Ml, .ref Mb, .ref Mh, .ref Mc, .int (iZ Mdr), .int (iZ Mrs), .ref Mz, .ref Mr, .ref Mq, .int (iZ Mit), .int (iZ Mmk)])), (Ma, .inl (k 1, 5340, .inl Af)), (Mk, .inl (k 1, 6, .inl (u.2.2.1 0))), (Ml, .inl (k 1, 6, .inl (u.2.2.1 1))), (Mb, .inl (k 1, 6, .inl (u.2.2.1 2))), (Mh, .inl (k 1, 120, .inl (u.2.2.1 3)))]) D A) [.ref hm, .int (iZ x1)].toArray s 0 0 A) (F0 m 44 ls []) := by
              intro fu
              induction fu with
              | zero => intro v3_44 v4_44 H locs ls hμ44 hi44 hf0_44 hP hD hS hl; exact absurd hμ44 (by omega)
              | succ fu ih44 =>
                intro v3_44 v4_44 H locs ls hμ44 hi44 hf0_44 hP hD hS hl
                refine lv_iload hx hb dX12_peace_44 (lv_at hl 0 rfl) ?_
                refine lv_aload_n hx hb dX12_peace_46 rfl (lv_at hl 3 rfl) ?_
                refine va_get (D := D) (ci := 12) (v := .ref Ma) (C := RX12) (T := TX12) (N := 36) hx hb hts iX12 hown hK hP 0 rfl rfl 0 (by decide) (hts _ qf_X12_7) (fun _ h => h) rfl dX12_peace_47 ?_
                refine lv_iconst (v := iZ 0) hx hb dX12_peace_50 (by decide) ?_
                refine va_iald hx hb hK hP 1 1 rfl rfl (zin (e := 0) (n := 5340) ⟨by omega, by omega⟩ (by decide)) dX12_peace_51 ?_
                refine lv_topi (fun x_20 ex_20 => ?_)
                obtain rfl : x_20 = iZ (gz Af 0) := ex_20.trans (gz_eq ⟨by omega, by omega⟩)
                have h_21 := gz_rg Af 0
                refine lv_icmp_ge (tgt := 98) hx hb dX12_peace_52 (by decide) (fun c_22 => ?_) (fun c_22 => ?_)
                ·
                  have c_22 := (zle (x := iZ (gz Af 0)) (y := iZ v4_44) rfl rfl ⟨by omega, by omega⟩ ⟨by omega, by omega⟩).mp c_22
                  refine lv_iload_n hx hb dX12_peace_98 rfl (lv_at hl 1 rfl) ?_
                  refine lv_if_eq (tgt := 108) hx hb dX12_peace_99 (by decide) (fun c_23 => ?_) (fun c_23 => ?_)
                  ·
                    have c_23 := (zeq (x := iZ v3_44) (y := iZ 0) rfl rfl ⟨by omega, by omega⟩ ⟨by omega, by omega⟩).mp c_23
                    refine lv_iinc (v := iZ (v2_19 + 1)) (lv' := [(2, .int (iZ (v2_19 + 1))), (4, .int (iZ v4_44)), (3, .int (iZ v3_44)), (0, .ref hm), (1, .int (iZ x1))]) hx hb dX12_peace_108 hl (k := 2) rfl (iZ_add v2_19 1) (by decide) rfl (fun ls hl => ?_)
                    refine lv_goto (tgt := 19) hx hb dX12_peace_111 (by decide) ?_
                    exact ih19  (v2_19 + 1) _ _ _ (by omega) (show (x1 ≤ (v2_19 + 1) ∧ (v2_19 + 1) ≤ (500) + 1) from ⟨by omega, by omega⟩) (hP.sub [0, 1, 2, 3, 4, 5] rfl) (hD.sub [0, 1, 2, 3, 4, 5] rfl rfl) hS (lv_sub hl [0, 3, 4] rfl)
                  ·
                    have c_23 := mt (zeq (x := iZ v3_44) (y := iZ 0) rfl rfl ⟨by omega, by omega⟩ ⟨by omega, by omega⟩).mpr c_23
                    refine lv_aload_n hx hb dX12_peace_102 rfl (lv_at hl 3 rfl) ?_
                    refine lv_iload_n hx hb dX12_peace_103 rfl (lv_at hl 2 rfl) ?_
                    refine CWV (As := [.int (iZ v2_19)]) (rest := []) (wc := [(hm, .inr (12, [.ref Ma, .ref Mn, .int (iZ Mst), .long Mtp, .long Mbt, .ref Ms, .ref My, .ref Mt, .ref Mp, .ref Mx, .int (iZ Mtd), .int (iZ Msz), .int (iZ Mtk), .int (iZ Mfr), .int (iZ Men), .int (iZ Mva), .int (iZ Mfk), .int (iZ Mfp), .int (iZ Mfs), .int (iZ Mse), .int (iZ Mlt), .ref Mo, .int (iZ Mdp), .int (iZ Mct), .ref Mk, .ref Ml, .ref Mb, .ref Mh, .ref Mc, .int (iZ Mdr), .int (iZ Mrs), .ref Mz, .ref Mr, .ref Mq, .int (iZ Mit), .int (iZ Mmk)]))]) (wr := [(Ma, .inl (k 1, 5340, .inl Af)), (Mk, .inl (k 1, 6, .inl (F_6 0))), (Ml, .inl (k 1, 6, .inl (F_6 1))), (Mb, .inl (k 1, 6, .inl (F_6 2))), (Mh, .inl (k 1, 120, .inl (F_6 3)))]) hx hb hml hown hts hKK hP hD hS hA (m_gives l D k hm Ma Mn Ms My Mt Mp Mx Mo Mk Ml Mb Mh Mc Mz Mr Mq Mst Mtd Msz Mtk Mfr Men Mva Mfk Mfp Mfs Mse Mlt Mdp Mct Mdr Mrs Mit Mmk Mtp Mbt v2_19) ci_X12_gives qm_X12_85 ⟨Nat.le_of_ble_eq_true rfl, Nat.le_of_ble_eq_true rfl⟩ ⟨Nat.le_of_ble_eq_true rfl, Nat.le_of_ble_eq_true rfl⟩ [0] [1, 2, 3, 4, 5] rfl rfl rfl rfl rfl (by decide) 0 rfl rfl rfl hl.1 rfl (Nat.le_of_ble_eq_true rfl) dX12_peace_104 (fun u_24 H locs hφ hP hD hS => ?_)
                    obtain ⟨I_25, L_26, F_27, G_28⟩ := u_24
                    refine W.eq (g2 := F0 m 107 ls [.int (iZ v2_19)]) rfl ?_
                    exact EWi hx hb hr hlocks hS (fun i => [v2_19, 0].getD i 0, fun i => [0].getD i 0, fun i => [(F_6 0), (F_6 1), (F_6 2), (F_6 3)].getD i (fun _ => 0), fun i => [].getD i (fun _ => 0)) rfl (show rgI (F_6 3) 0 1000000 120 from p_9) (hP.sub [5, 0, 1, 2, 3, 4] rfl) (hD.sub [5, 0, 1, 2, 3, 4] rfl rfl) dX12_peace_107
                ·
                  have c_22 := mt (zle (x := iZ (gz Af 0)) (y := iZ v4_44) rfl rfl ⟨by omega, by omega⟩ ⟨by omega, by omega⟩).mpr c_22
                  refine lv_iload_n hx hb dX12_peace_55 rfl (lv_at hl 1 rfl) ?_
                  refine lv_if_eq (tgt := 98) hx hb dX12_peace_56 (by decide) (fun c_30 => ?_) (fun c_30 => ?_)
                  ·
                    have c_30 := (zeq (x := iZ v3_44) (y := iZ 0) rfl rfl ⟨by omega, by omega⟩ ⟨by omega, by omega⟩).mp c_30
                    refine lv_iload_n hx hb dX12_peace_98 rfl (lv_at hl 1 rfl) ?_
                    refine lv_if_eq (tgt := 108) hx hb dX12_peace_99 (by decide) (fun c_31 => ?_) (fun c_31 => ?_)
                    ·
                      have c_31 := (zeq (x := iZ v3_44) (y := iZ 0) rfl rfl ⟨by omega, by omega⟩ ⟨by omega, by omega⟩).mp c_31
                      refine lv_iinc (v := iZ (v2_19 + 1)) (lv' := [(2, .int (iZ (v2_19 + 1))), (4, .int (iZ v4_44)), (3, .int (iZ v3_44)), (0, .ref hm), (1, .int (iZ x1))]) hx hb dX12_peace_108 hl (k := 2) rfl (iZ_add v2_19 1) (by decide) rfl (fun ls hl => ?_)
                      refine lv_goto (tgt := 19) hx hb dX12_peace_111 (by decide) ?_
                      exact ih19  (v2_19 + 1) _ _ _ (by omega) (show (x1 ≤ (v2_19 + 1) ∧ (v2_19 + 1) ≤ (500) + 1) from ⟨by omega, by omega⟩) (hP.sub [0, 1, 2, 3, 4, 5] rfl) (hD.sub [0, 1, 2, 3, 4, 5] rfl rfl) hS (lv_sub hl [0, 3, 4] rfl)
                    ·
                      have c_31 := mt (zeq (x := iZ v3_44) (y := iZ 0) rfl rfl ⟨by omega, by omega⟩ ⟨by omega, by omega⟩).mpr c_31
                      exact absurd c_31 (by omega)
                  ·
                    have c_30 := mt (zeq (x := iZ v3_44) (y := iZ 0) rfl rfl ⟨by omega, by omega⟩ ⟨by omega, by omega⟩).mpr c_30
                    refine lv_aload_n hx hb dX12_peace_59 rfl (lv_at hl 3 rfl) ?_
                    refine lv_iload hx hb dX12_peace_60 (lv_at hl 0 rfl) ?_
                    refine lv_iload_n hx hb dX12_peace_62 rfl (lv_at hl 2 rfl) ?_
                    refine CPV (As := [.int (iZ v4_44), .int (iZ v2_19)]) (rest := []) hx hb hml hown hts hKK (hP.sub (ws' := [(hm, .inr (12, [.ref Ma, .ref Mn, .int (iZ Mst), .long Mtp, .long Mbt, .ref Ms, .ref My, .ref Mt, .ref Mp, .ref Mx, .int (iZ Mtd), .int (iZ Msz), .int (iZ Mtk), .int (iZ Mfr), .int (iZ Men), .int (iZ Mva), .int (iZ Mfk), .int (iZ Mfp), .int (iZ Mfs), .int (iZ Mse), .int (iZ Mlt), .ref Mo, .int (iZ Mdp), .int (iZ Mct), .ref Mk, .ref Ml, .ref Mb, .ref Mh, .ref Mc, .int (iZ Mdr), .int (iZ Mrs), .ref Mz, .ref Mr, .ref Mq, .int (iZ Mit), .int (iZ Mmk)])), (Ma, .inl (k 1, 5340, .inl Af)), (Mh, .inl (k 1, 120, .inl (F_6 3)))]) [0, 1, 5] rfl) (m_ruling l D k ([.ref Ma, .ref Mn, .int (iZ Mst), .long Mtp, .long Mbt, .ref Ms, .ref My, .ref Mt, .ref Mp, .ref Mx, .int (iZ Mtd), .int (iZ Msz), .int (iZ Mtk), .int (iZ Mfr), .int (iZ Men), .int (iZ Mva), .int (iZ Mfk), .int (iZ Mfp), .int (iZ Mfs), .int (iZ Mse), .int (iZ Mlt), .ref Mo, .int (iZ Mdp), .int (iZ Mct), .ref Mk, .ref Ml, .ref Mb, .ref Mh, .ref Mc, .int (iZ Mdr), .int (iZ Mrs), .ref Mz, .ref Mr, .ref Mq, .int (iZ Mit), .int (iZ Mmk)]) hm Ma Mh Af (F_6 3) v4_44 v2_19 rfl rfl hM ⟨by omega, by omega⟩ ⟨by omega, by omega⟩ p_9) ci_X12_ruling qm_X12_333 ⟨Nat.le_of_ble_eq_true rfl, Nat.le_of_ble_eq_true rfl⟩ ⟨Nat.le_of_ble_eq_true rfl, Nat.le_of_ble_eq_true rfl⟩ 0 rfl rfl rfl hl.1 rfl (Nat.le_of_ble_eq_true rfl) dX12_peace_63 (fun z_32 hz_32 => ?_)
                    refine lv_iconst (v := iZ (-1)) hx hb dX12_peace_66 (by decide) ?_
                    refine lv_icmp_eq (tgt := 90) hx hb dX12_peace_67 (by decide) (fun c_33 => ?_) (fun c_33 => ?_)
                    ·
                      have c_33 := (zeq (x := iZ z_32) (y := iZ (-1)) rfl rfl ⟨by omega, by omega⟩ ⟨by omega, by omega⟩).mp c_33
                      refine lv_iconst (v := iZ 0) hx hb dX12_peace_90 (by decide) ?_
                      refine lv_istore_n (lv' := [(3, .int (iZ 0)), (4, .int (iZ v4_44)), (2, .int (iZ v2_19)), (0, .ref hm), (1, .int (iZ x1))]) hx hb dX12_peace_91 rfl hl (by decide) rfl (fun ls hl => ?_)
                      refine lv_iinc (v := iZ (v4_44 + 1)) (lv' := [(4, .int (iZ (v4_44 + 1))), (3, .int (iZ 0)), (2, .int (iZ v2_19)), (0, .ref hm), (1, .int (iZ x1))]) hx hb dX12_peace_92 hl (k := 1) rfl (iZ_add v4_44 1) (by decide) rfl (fun ls hl => ?_)
                      refine lv_goto (tgt := 44) hx hb dX12_peace_95 (by decide) ?_
                      exact ih44  0 (v4_44 + 1) _ _ _ (by omega) (show (0 ≤ (v4_44 + 1) ∧ (v4_44 + 1) ≤ (gz Af 0) + 1) from ⟨by omega, by omega⟩) (show 0 ≤ 0 ∧ 0 ≤ 1 from (by omega)) (hP.sub [0, 1, 2, 3, 4, 5] rfl) (hD.sub [0, 1, 2, 3, 4, 5] rfl rfl) hS (lv_sub hl [0, 1, 2, 3, 4] rfl)
                    ·
                      have c_33 := mt (zeq (x := iZ z_32) (y := iZ (-1)) rfl rfl ⟨by omega, by omega⟩ ⟨by omega, by omega⟩).mpr c_33
                      refine lv_aload_n hx hb dX12_peace_70 rfl (lv_at hl 3 rfl) ?_
                      refine lv_iload hx hb dX12_peace_71 (lv_at hl 0 rfl) ?_
                      refine lv_iload_n hx hb dX12_peace_73 rfl (lv_at hl 2 rfl) ?_
                      refine CPV (As := [.int (iZ v4_44), .int (iZ v2_19)]) (rest := []) hx hb hml hown hts hKK (hP.sub (ws' := [(hm, .inr (12, [.ref Ma, .ref Mn, .int (iZ Mst), .long Mtp, .long Mbt, .ref Ms, .ref My, .ref Mt, .ref Mp, .ref Mx, .int (iZ Mtd), .int (iZ Msz), .int (iZ Mtk), .int (iZ Mfr), .int (iZ Men), .int (iZ Mva), .int (iZ Mfk), .int (iZ Mfp), .int (iZ Mfs), .int (iZ Mse), .int (iZ Mlt), .ref Mo, .int (iZ Mdp), .int (iZ Mct), .ref Mk, .ref Ml, .ref Mb, .ref Mh, .ref Mc, .int (iZ Mdr), .int (iZ Mrs), .ref Mz, .ref Mr, .ref Mq, .int (iZ Mit), .int (iZ Mmk)])), (Ma, .inl (k 1, 5340, .inl Af)), (Mh, .inl (k 1, 120, .inl (F_6 3)))]) [0, 1, 5] rfl) (m_ruling l D k ([.ref Ma, .ref Mn, .int (iZ Mst), .long Mtp, .long Mbt, .ref Ms, .ref My, .ref Mt, .ref Mp, .ref Mx, .int (iZ Mtd), .int (iZ Msz), .int (iZ Mtk), .int (iZ Mfr), .int (iZ Men), .int (iZ Mva), .int (iZ Mfk), .int (iZ Mfp), .int (iZ Mfs), .int (iZ Mse), .int (iZ Mlt), .ref Mo, .int (iZ Mdp), .int (iZ Mct), .ref Mk, .ref Ml, .ref Mb, .ref Mh, .ref Mc, .int (iZ Mdr), .int (iZ Mrs), .ref Mz, .ref Mr, .ref Mq, .int (iZ Mit), .int (iZ Mmk)]) hm Ma Mh Af (F_6 3) v4_44 v2_19 rfl rfl hM ⟨by omega, by omega⟩ ⟨by omega, by omega⟩ p_9) ci_X12_ruling qm_X12_333 ⟨Nat.le_of_ble_eq_true rfl, Nat.le_of_ble_eq_true rfl⟩ ⟨Nat.le_of_ble_eq_true rfl, Nat.le_of_ble_eq_true rfl⟩ 0 rfl rfl rfl hl.1 rfl (Nat.le_of_ble_eq_true rfl) dX12_peace_74 (fun z_34 hz_34 => ?_)
                      refine lv_aload_n hx hb dX12_peace_77 rfl (lv_at hl 3 rfl) ?_
                      refine lv_iconst (v := iZ 0) hx hb dX12_peace_78 (by decide) ?_
                      refine lv_iload_n hx hb dX12_peace_79 rfl (lv_at hl 2 rfl) ?_
                      refine CPV (As := [.int (iZ 0), .int (iZ v2_19)]) (rest := [.int (iZ z_34)]) hx hb hml hown hts hKK (hP.sub (ws' := [(hm, .inr (12, [.ref Ma, .ref Mn, .int (iZ Mst), .long Mtp, .long Mbt, .ref Ms, .ref My, .ref Mt, .ref Mp, .ref Mx, .int (iZ Mtd), .int (iZ Msz), .int (iZ Mtk), .int (iZ Mfr), .int (iZ Men), .int (iZ Mva), .int (iZ Mfk), .int (iZ Mfp), .int (iZ Mfs), .int (iZ Mse), .int (iZ Mlt), .ref Mo, .int (iZ Mdp), .int (iZ Mct), .ref Mk, .ref Ml, .ref Mb, .ref Mh, .ref Mc, .int (iZ Mdr), .int (iZ Mrs), .ref Mz, .ref Mr, .ref Mq, .int (iZ Mit), .int (iZ Mmk)])), (Ma, .inl (k 1, 5340, .inl Af)), (Mh, .inl (k 1, 120, .inl (F_6 3)))]) [0, 1, 5] rfl) (m_ruling l D k ([.ref Ma, .ref Mn, .int (iZ Mst), .long Mtp, .long Mbt, .ref Ms, .ref My, .ref Mt, .ref Mp, .ref Mx, .int (iZ Mtd), .int (iZ Msz), .int (iZ Mtk), .int (iZ Mfr), .int (iZ Men), .int (iZ Mva), .int (iZ Mfk), .int (iZ Mfp), .int (iZ Mfs), .int (iZ Mse), .int (iZ Mlt), .ref Mo, .int (iZ Mdp), .int (iZ Mct), .ref Mk, .ref Ml, .ref Mb, .ref Mh, .ref Mc, .int (iZ Mdr), .int (iZ Mrs), .ref Mz, .ref Mr, .ref Mq, .int (iZ Mit), .int (iZ Mmk)]) hm Ma Mh Af (F_6 3) 0 v2_19 rfl rfl hM ⟨by omega, by omega⟩ ⟨by omega, by omega⟩ p_9) ci_X12_ruling qm_X12_333 ⟨Nat.le_of_ble_eq_true rfl, Nat.le_of_ble_eq_true rfl⟩ ⟨Nat.le_of_ble_eq_true rfl, Nat.le_of_ble_eq_true rfl⟩ 0 rfl rfl rfl hl.1 rfl (Nat.le_of_ble_eq_true rfl) dX12_peace_80 (fun z_35 hz_35 => ?_)
                      refine lv_icmp_ne (tgt := 90) hx hb dX12_peace_83 (by decide) (fun c_36 => ?_) (fun c_36 => ?_)
                      ·
                        have c_36 := mt (zeq (x := iZ z_34) (y := iZ z_35) rfl rfl ⟨by omega, by omega⟩ ⟨by omega, by omega⟩).mpr c_36
                        refine lv_iconst (v := iZ 0) hx hb dX12_peace_90 (by decide) ?_
                        refine lv_istore_n (lv' := [(3, .int (iZ 0)), (4, .int (iZ v4_44)), (2, .int (iZ v2_19)), (0, .ref hm), (1, .int (iZ x1))]) hx hb dX12_peace_91 rfl hl (by decide) rfl (fun ls hl => ?_)
                        refine lv_iinc (v := iZ (v4_44 + 1)) (lv' := [(4, .int (iZ (v4_44 + 1))), (3, .int (iZ 0)), (2, .int (iZ v2_19)), (0, .ref hm), (1, .int (iZ x1))]) hx hb dX12_peace_92 hl (k := 1) rfl (iZ_add v4_44 1) (by decide) rfl (fun ls hl => ?_)
                        refine lv_goto (tgt := 44) hx hb dX12_peace_95 (by decide) ?_
                        exact ih44  0 (v4_44 + 1) _ _ _ (by omega) (show (0 ≤ (v4_44 + 1) ∧ (v4_44 + 1) ≤ (gz Af 0) + 1) from ⟨by omega, by omega⟩) (show 0 ≤ 0 ∧ 0 ≤ 1 from (by omega)) (hP.sub [0, 1, 2, 3, 4, 5] rfl) (hD.sub [0, 1, 2, 3, 4, 5] rfl rfl) hS (lv_sub hl [0, 1, 2, 3, 4] rfl)
                      ·
                        have c_36 := (zeq (x := iZ z_34) (y := iZ z_35) rfl rfl ⟨by omega, by omega⟩ ⟨by omega, by omega⟩).mp c_36
                        refine lv_iconst (v := iZ 1) hx hb dX12_peace_86 (by decide) ?_
                        refine lv_goto (tgt := 91) hx hb dX12_peace_87 (by decide) ?_
                        refine lv_istore_n (lv' := [(3, .int (iZ 1)), (4, .int (iZ v4_44)), (2, .int (iZ v2_19)), (0, .ref hm), (1, .int (iZ x1))]) hx hb dX12_peace_91 rfl hl (by decide) rfl (fun ls hl => ?_)
                        refine lv_iinc (v := iZ (v4_44 + 1)) (lv' := [(4, .int (iZ (v4_44 + 1))), (3, .int (iZ 1)), (2, .int (iZ v2_19)), (0, .ref hm), (1, .int (iZ x1))]) hx hb dX12_peace_92 hl (k := 1) rfl (iZ_add v4_44 1) (by decide) rfl (fun ls hl => ?_)
                        refine lv_goto (tgt := 44) hx hb dX12_peace_95 (by decide) ?_
                        exact ih44  1 (v4_44 + 1) _ _ _ (by omega) (show (0 ≤ (v4_44 + 1) ∧ (v4_44 + 1) ≤ (gz Af 0) + 1) from ⟨by omega, by omega⟩) (show 0 ≤ 1 ∧ 1 ≤ 1 from (by omega)) (hP.sub [0, 1, 2, 3, 4, 5] rfl) (hD.sub [0, 1, 2, 3, 4, 5] rfl rfl) hS (lv_sub hl [0, 1, 2, 3, 4] rfl)
            exact HL44 10 0 0 _ _ _ (by omega) (show (0 ≤ 0 ∧ 0 ≤ (gz Af 0) + 1) from ⟨by omega, by omega⟩) (show 0 ≤ 0 ∧ 0 ≤ 1 from (by omega)) (hP.sub [0, 1, 2, 3, 4, 5] rfl) (hD.sub [0, 1, 2, 3, 4, 5] rfl rfl) hS (lv_sub hl [0, 1, 2, 3, 4] rfl)
          ·
            have c_19 := mt (zle (x := iZ (gz Af 0)) (y := iZ 0) rfl rfl ⟨by omega, by omega⟩ ⟨by omega, by omega⟩).mpr c_19
            refine lv_iconst (v := iZ 1) hx hb dX12_peace_35 (by decide) ?_
            refine lv_goto (tgt := 40) hx hb dX12_peace_36 (by decide) ?_
            refine lv_istore_n (lv' := [(3, .int (iZ 1)), (2, .int (iZ v2_19)), (0, .ref hm), (1, .int (iZ x1))]) hx hb dX12_peace_40 rfl hl (by decide) rfl (fun ls hl => ?_)
            refine lv_iconst (v := iZ 0) hx hb dX12_peace_41 (by decide) ?_
            refine lv_istore (lv' := [(4, .int (iZ 0)), (3, .int (iZ 1)), (2, .int (iZ v2_19)), (0, .ref hm), (1, .int (iZ x1))]) hx hb dX12_peace_42 hl (by decide) rfl (fun ls hl => ?_)
            have HL44 : ∀ (fu : Nat) (v3_44 : Int) (v4_44 : Int) (H : Heap) (locs : List Loc) (ls : Array Slot), ((gz Af 0) + 2 - v4_44) < (fu : Int) → ((0 ≤ v4_44 ∧ v4_44 ≤ (gz Af 0) + 1)) → (0 ≤ v3_44 ∧ v3_44 ≤ 1) → va_P D vwCl [(hm, .inr (12, [.ref Ma, .ref Mn, .int (iZ Mst), .long Mtp, .long Mbt, .ref Ms, .ref My, .ref Mt, .ref Mp, .ref Mx, .int (iZ Mtd), .int (iZ Msz), .int (iZ Mtk), .int (iZ Mfr), .int (iZ Men), .int (iZ Mva), .int (iZ Mfk), .int (iZ Mfp), .int (iZ Mfs), .int (iZ Mse), .int (iZ Mlt), .ref Mo, .int (iZ Mdp), .int (iZ Mct), .ref Mk, .ref Ml, .ref Mb, .ref Mh, .ref Mc, .int (iZ Mdr), .int (iZ Mrs), .ref Mz, .ref Mr, .ref Mq, .int (iZ Mit), .int (iZ Mmk)])), (Ma, .inl (k 1, 5340, .inl Af)), (Mk, .inl (k 1, 6, .inl (F_6 0))), (Ml, .inl (k 1, 6, .inl (F_6 1))), (Mb, .inl (k 1, 6, .inl (F_6 2))), (Mh, .inl (k 1, 120, .inl (F_6 3)))] H → va_D A [(hm, .inr (12, [.ref Ma, .ref Mn, .int (iZ Mst), .long Mtp, .long Mbt, .ref Ms, .ref My, .ref Mt, .ref Mp, .ref Mx, .int (iZ Mtd), .int (iZ Msz), .int (iZ Mtk), .int (iZ Mfr), .int (iZ Men), .int (iZ Mva), .int (iZ Mfk), .int (iZ Mfp), .int (iZ Mfs), .int (iZ Mse), .int (iZ Mlt), .ref Mo, .int (iZ Mdp), .int (iZ Mct), .ref Mk, .ref Ml, .ref Mb, .ref Mh, .ref Mc, .int (iZ Mdr), .int (iZ Mrs), .ref Mz, .ref Mr, .ref Mq, .int (iZ Mit), .int (iZ Mmk)])), (Ma, .inl (k 1, 5340, .inl Af)), (Mk, .inl (k 1, 6, .inl (F_6 0))), (Ml, .inl (k 1, 6, .inl (F_6 1))), (Mb, .inl (k 1, 6, .inl (F_6 2))), (Mh, .inl (k 1, 120, .inl (F_6 3)))] → va_S A s.heap H locs → lv_has ls 5 [(4, .int (iZ v4_44)), (3, .int (iZ v3_44)), (2, .int (iZ v2_19)), (0, .ref hm), (1, .int (iZ x1))] → W p l e (rj 8 0 0) s m [.ref hm, .int (iZ x1)].toArray below meth c H locs 0 0 (MQ below (QW (σ := ((Nat → Int) × (Nat → Int64) × (Nat → Nat → Int32) × (Nat → Nat → Int64))) (fun u => some (.int (iZ (u.1 0)))) (fun u => rgI (u.2.2.1 3) 0 1000000 120) (fun u => [(hm, .inr (12, [.ref Ma, .ref Mn, .int (iZ (u.1 1)), .long Mtp, .long Mbt, .ref Ms, .ref My, .ref Mt, .ref Mp, .ref Mx, .int (iZ Mtd), .int (iZ Msz), .int (iZ Mtk), .int (iZ Mfr), .int (iZ Men), .int (iZ Mva), .int (iZ Mfk), .int (iZ Mfp), .int (iZ Mfs), .int (iZ Mse), .int (iZ Mlt), .ref Mo, .int (iZ Mdp), .int (iZ Mct), .ref Mk, .ref Ml, .ref Mb, .ref Mh, .ref Mc, .int (iZ Mdr), .int (iZ Mrs), .ref Mz, .ref Mr, .ref Mq, .int (iZ Mit), .int (iZ Mmk)])), (Ma, .inl (k 1, 5340, .inl Af)), (Mk, .inl (k 1, 6, .inl (u.2.2.1 0))), (Ml, .inl (k 1, 6, .inl (u.2.2.1 1))), (Mb, .inl (k 1, 6, .inl (u.2.2.1 2))), (Mh, .inl (k 1, 120, .inl (u.2.2.1 3)))]) D A) [.ref hm, .int (iZ x1)].toArray s 0 0 A) (F0 m 44 ls []) := by
              intro fu
              induction fu with
              | zero => intro v3_44 v4_44 H locs ls hμ44 hi44 hf0_44 hP hD hS hl; exact absurd hμ44 (by omega)
              | succ fu ih44 =>
                intro v3_44 v4_44 H locs ls hμ44 hi44 hf0_44 hP hD hS hl
                refine lv_iload hx hb dX12_peace_44 (lv_at hl 0 rfl) ?_
                refine lv_aload_n hx hb dX12_peace_46 rfl (lv_at hl 3 rfl) ?_
                refine va_get (D := D) (ci := 12) (v := .ref Ma) (C := RX12) (T := TX12) (N := 36) hx hb hts iX12 hown hK hP 0 rfl rfl 0 (by decide) (hts _ qf_X12_7) (fun _ h => h) rfl dX12_peace_47 ?_
                refine lv_iconst (v := iZ 0) hx hb dX12_peace_50 (by decide) ?_
                refine va_iald hx hb hK hP 1 1 rfl rfl (zin (e := 0) (n := 5340) ⟨by omega, by omega⟩ (by decide)) dX12_peace_51 ?_
                refine lv_topi (fun x_37 ex_37 => ?_)
                obtain rfl : x_37 = iZ (gz Af 0) := ex_37.trans (gz_eq ⟨by omega, by omega⟩)
                have h_38 := gz_rg Af 0
                refine lv_icmp_ge (tgt := 98) hx hb dX12_peace_52 (by decide) (fun c_39 => ?_) (fun c_39 => ?_)
                ·
                  have c_39 := (zle (x := iZ (gz Af 0)) (y := iZ v4_44) rfl rfl ⟨by omega, by omega⟩ ⟨by omega, by omega⟩).mp c_39
                  refine lv_iload_n hx hb dX12_peace_98 rfl (lv_at hl 1 rfl) ?_
                  refine lv_if_eq (tgt := 108) hx hb dX12_peace_99 (by decide) (fun c_40 => ?_) (fun c_40 => ?_)
                  ·
                    have c_40 := (zeq (x := iZ v3_44) (y := iZ 0) rfl rfl ⟨by omega, by omega⟩ ⟨by omega, by omega⟩).mp c_40
                    refine lv_iinc (v := iZ (v2_19 + 1)) (lv' := [(2, .int (iZ (v2_19 + 1))), (4, .int (iZ v4_44)), (3, .int (iZ v3_44)), (0, .ref hm), (1, .int (iZ x1))]) hx hb dX12_peace_108 hl (k := 2) rfl (iZ_add v2_19 1) (by decide) rfl (fun ls hl => ?_)
                    refine lv_goto (tgt := 19) hx hb dX12_peace_111 (by decide) ?_
                    exact ih19  (v2_19 + 1) _ _ _ (by omega) (show (x1 ≤ (v2_19 + 1) ∧ (v2_19 + 1) ≤ (500) + 1) from ⟨by omega, by omega⟩) (hP.sub [0, 1, 2, 3, 4, 5] rfl) (hD.sub [0, 1, 2, 3, 4, 5] rfl rfl) hS (lv_sub hl [0, 3, 4] rfl)
                  ·
                    have c_40 := mt (zeq (x := iZ v3_44) (y := iZ 0) rfl rfl ⟨by omega, by omega⟩ ⟨by omega, by omega⟩).mpr c_40
                    refine lv_aload_n hx hb dX12_peace_102 rfl (lv_at hl 3 rfl) ?_
                    refine lv_iload_n hx hb dX12_peace_103 rfl (lv_at hl 2 rfl) ?_
                    refine CWV (As := [.int (iZ v2_19)]) (rest := []) (wc := [(hm, .inr (12, [.ref Ma, .ref Mn, .int (iZ Mst), .long Mtp, .long Mbt, .ref Ms, .ref My, .ref Mt, .ref Mp, .ref Mx, .int (iZ Mtd), .int (iZ Msz), .int (iZ Mtk), .int (iZ Mfr), .int (iZ Men), .int (iZ Mva), .int (iZ Mfk), .int (iZ Mfp), .int (iZ Mfs), .int (iZ Mse), .int (iZ Mlt), .ref Mo, .int (iZ Mdp), .int (iZ Mct), .ref Mk, .ref Ml, .ref Mb, .ref Mh, .ref Mc, .int (iZ Mdr), .int (iZ Mrs), .ref Mz, .ref Mr, .ref Mq, .int (iZ Mit), .int (iZ Mmk)]))]) (wr := [(Ma, .inl (k 1, 5340, .inl Af)), (Mk, .inl (k 1, 6, .inl (F_6 0))), (Ml, .inl (k 1, 6, .inl (F_6 1))), (Mb, .inl (k 1, 6, .inl (F_6 2))), (Mh, .inl (k 1, 120, .inl (F_6 3)))]) hx hb hml hown hts hKK hP hD hS hA (m_gives l D k hm Ma Mn Ms My Mt Mp Mx Mo Mk Ml Mb Mh Mc Mz Mr Mq Mst Mtd Msz Mtk Mfr Men Mva Mfk Mfp Mfs Mse Mlt Mdp Mct Mdr Mrs Mit Mmk Mtp Mbt v2_19) ci_X12_gives qm_X12_85 ⟨Nat.le_of_ble_eq_true rfl, Nat.le_of_ble_eq_true rfl⟩ ⟨Nat.le_of_ble_eq_true rfl, Nat.le_of_ble_eq_true rfl⟩ [0] [1, 2, 3, 4, 5] rfl rfl rfl rfl rfl (by decide) 0 rfl rfl rfl hl.1 rfl (Nat.le_of_ble_eq_true rfl) dX12_peace_104 (fun u_41 H locs hφ hP hD hS => ?_)
                    obtain ⟨I_42, L_43, F_44, G_45⟩ := u_41
                    refine W.eq (g2 := F0 m 107 ls [.int (iZ v2_19)]) rfl ?_
                    exact EWi hx hb hr hlocks hS (fun i => [v2_19, 0].getD i 0, fun i => [0].getD i 0, fun i => [(F_6 0), (F_6 1), (F_6 2), (F_6 3)].getD i (fun _ => 0), fun i => [].getD i (fun _ => 0)) rfl (show rgI (F_6 3) 0 1000000 120 from p_9) (hP.sub [5, 0, 1, 2, 3, 4] rfl) (hD.sub [5, 0, 1, 2, 3, 4] rfl rfl) dX12_peace_107
                ·
                  have c_39 := mt (zle (x := iZ (gz Af 0)) (y := iZ v4_44) rfl rfl ⟨by omega, by omega⟩ ⟨by omega, by omega⟩).mpr c_39
                  refine lv_iload_n hx hb dX12_peace_55 rfl (lv_at hl 1 rfl) ?_
                  refine lv_if_eq (tgt := 98) hx hb dX12_peace_56 (by decide) (fun c_47 => ?_) (fun c_47 => ?_)
                  ·
                    have c_47 := (zeq (x := iZ v3_44) (y := iZ 0) rfl rfl ⟨by omega, by omega⟩ ⟨by omega, by omega⟩).mp c_47
                    refine lv_iload_n hx hb dX12_peace_98 rfl (lv_at hl 1 rfl) ?_
                    refine lv_if_eq (tgt := 108) hx hb dX12_peace_99 (by decide) (fun c_48 => ?_) (fun c_48 => ?_)
                    ·
                      have c_48 := (zeq (x := iZ v3_44) (y := iZ 0) rfl rfl ⟨by omega, by omega⟩ ⟨by omega, by omega⟩).mp c_48
                      refine lv_iinc (v := iZ (v2_19 + 1)) (lv' := [(2, .int (iZ (v2_19 + 1))), (4, .int (iZ v4_44)), (3, .int (iZ v3_44)), (0, .ref hm), (1, .int (iZ x1))]) hx hb dX12_peace_108 hl (k := 2) rfl (iZ_add v2_19 1) (by decide) rfl (fun ls hl => ?_)
                      refine lv_goto (tgt := 19) hx hb dX12_peace_111 (by decide) ?_
                      exact ih19  (v2_19 + 1) _ _ _ (by omega) (show (x1 ≤ (v2_19 + 1) ∧ (v2_19 + 1) ≤ (500) + 1) from ⟨by omega, by omega⟩) (hP.sub [0, 1, 2, 3, 4, 5] rfl) (hD.sub [0, 1, 2, 3, 4, 5] rfl rfl) hS (lv_sub hl [0, 3, 4] rfl)
                    ·
                      have c_48 := mt (zeq (x := iZ v3_44) (y := iZ 0) rfl rfl ⟨by omega, by omega⟩ ⟨by omega, by omega⟩).mpr c_48
                      exact absurd c_48 (by omega)
                  ·
                    have c_47 := mt (zeq (x := iZ v3_44) (y := iZ 0) rfl rfl ⟨by omega, by omega⟩ ⟨by omega, by omega⟩).mpr c_47
                    refine lv_aload_n hx hb dX12_peace_59 rfl (lv_at hl 3 rfl) ?_
                    refine lv_iload hx hb dX12_peace_60 (lv_at hl 0 rfl) ?_
                    refine lv_iload_n hx hb dX12_peace_62 rfl (lv_at hl 2 rfl) ?_
                    refine CPV (As := [.int (iZ v4_44), .int (iZ v2_19)]) (rest := []) hx hb hml hown hts hKK (hP.sub (ws' := [(hm, .inr (12, [.ref Ma, .ref Mn, .int (iZ Mst), .long Mtp, .long Mbt, .ref Ms, .ref My, .ref Mt, .ref Mp, .ref Mx, .int (iZ Mtd), .int (iZ Msz), .int (iZ Mtk), .int (iZ Mfr), .int (iZ Men), .int (iZ Mva), .int (iZ Mfk), .int (iZ Mfp), .int (iZ Mfs), .int (iZ Mse), .int (iZ Mlt), .ref Mo, .int (iZ Mdp), .int (iZ Mct), .ref Mk, .ref Ml, .ref Mb, .ref Mh, .ref Mc, .int (iZ Mdr), .int (iZ Mrs), .ref Mz, .ref Mr, .ref Mq, .int (iZ Mit), .int (iZ Mmk)])), (Ma, .inl (k 1, 5340, .inl Af)), (Mh, .inl (k 1, 120, .inl (F_6 3)))]) [0, 1, 5] rfl) (m_ruling l D k ([.ref Ma, .ref Mn, .int (iZ Mst), .long Mtp, .long Mbt, .ref Ms, .ref My, .ref Mt, .ref Mp, .ref Mx, .int (iZ Mtd), .int (iZ Msz), .int (iZ Mtk), .int (iZ Mfr), .int (iZ Men), .int (iZ Mva), .int (iZ Mfk), .int (iZ Mfp), .int (iZ Mfs), .int (iZ Mse), .int (iZ Mlt), .ref Mo, .int (iZ Mdp), .int (iZ Mct), .ref Mk, .ref Ml, .ref Mb, .ref Mh, .ref Mc, .int (iZ Mdr), .int (iZ Mrs), .ref Mz, .ref Mr, .ref Mq, .int (iZ Mit), .int (iZ Mmk)]) hm Ma Mh Af (F_6 3) v4_44 v2_19 rfl rfl hM ⟨by omega, by omega⟩ ⟨by omega, by omega⟩ p_9) ci_X12_ruling qm_X12_333 ⟨Nat.le_of_ble_eq_true rfl, Nat.le_of_ble_eq_true rfl⟩ ⟨Nat.le_of_ble_eq_true rfl, Nat.le_of_ble_eq_true rfl⟩ 0 rfl rfl rfl hl.1 rfl (Nat.le_of_ble_eq_true rfl) dX12_peace_63 (fun z_49 hz_49 => ?_)
                    refine lv_iconst (v := iZ (-1)) hx hb dX12_peace_66 (by decide) ?_
                    refine lv_icmp_eq (tgt := 90) hx hb dX12_peace_67 (by decide) (fun c_50 => ?_) (fun c_50 => ?_)
                    ·
                      have c_50 := (zeq (x := iZ z_49) (y := iZ (-1)) rfl rfl ⟨by omega, by omega⟩ ⟨by omega, by omega⟩).mp c_50
                      refine lv_iconst (v := iZ 0) hx hb dX12_peace_90 (by decide) ?_
                      refine lv_istore_n (lv' := [(3, .int (iZ 0)), (4, .int (iZ v4_44)), (2, .int (iZ v2_19)), (0, .ref hm), (1, .int (iZ x1))]) hx hb dX12_peace_91 rfl hl (by decide) rfl (fun ls hl => ?_)
                      refine lv_iinc (v := iZ (v4_44 + 1)) (lv' := [(4, .int (iZ (v4_44 + 1))), (3, .int (iZ 0)), (2, .int (iZ v2_19)), (0, .ref hm), (1, .int (iZ x1))]) hx hb dX12_peace_92 hl (k := 1) rfl (iZ_add v4_44 1) (by decide) rfl (fun ls hl => ?_)
                      refine lv_goto (tgt := 44) hx hb dX12_peace_95 (by decide) ?_
                      exact ih44  0 (v4_44 + 1) _ _ _ (by omega) (show (0 ≤ (v4_44 + 1) ∧ (v4_44 + 1) ≤ (gz Af 0) + 1) from ⟨by omega, by omega⟩) (show 0 ≤ 0 ∧ 0 ≤ 1 from (by omega)) (hP.sub [0, 1, 2, 3, 4, 5] rfl) (hD.sub [0, 1, 2, 3, 4, 5] rfl rfl) hS (lv_sub hl [0, 1, 2, 3, 4] rfl)
                    ·
                      have c_50 := mt (zeq (x := iZ z_49) (y := iZ (-1)) rfl rfl ⟨by omega, by omega⟩ ⟨by omega, by omega⟩).mpr c_50
                      refine lv_aload_n hx hb dX12_peace_70 rfl (lv_at hl 3 rfl) ?_
                      refine lv_iload hx hb dX12_peace_71 (lv_at hl 0 rfl) ?_
                      refine lv_iload_n hx hb dX12_peace_73 rfl (lv_at hl 2 rfl) ?_
                      refine CPV (As := [.int (iZ v4_44), .int (iZ v2_19)]) (rest := []) hx hb hml hown hts hKK (hP.sub (ws' := [(hm, .inr (12, [.ref Ma, .ref Mn, .int (iZ Mst), .long Mtp, .long Mbt, .ref Ms, .ref My, .ref Mt, .ref Mp, .ref Mx, .int (iZ Mtd), .int (iZ Msz), .int (iZ Mtk), .int (iZ Mfr), .int (iZ Men), .int (iZ Mva), .int (iZ Mfk), .int (iZ Mfp), .int (iZ Mfs), .int (iZ Mse), .int (iZ Mlt), .ref Mo, .int (iZ Mdp), .int (iZ Mct), .ref Mk, .ref Ml, .ref Mb, .ref Mh, .ref Mc, .int (iZ Mdr), .int (iZ Mrs), .ref Mz, .ref Mr, .ref Mq, .int (iZ Mit), .int (iZ Mmk)])), (Ma, .inl (k 1, 5340, .inl Af)), (Mh, .inl (k 1, 120, .inl (F_6 3)))]) [0, 1, 5] rfl) (m_ruling l D k ([.ref Ma, .ref Mn, .int (iZ Mst), .long Mtp, .long Mbt, .ref Ms, .ref My, .ref Mt, .ref Mp, .ref Mx, .int (iZ Mtd), .int (iZ Msz), .int (iZ Mtk), .int (iZ Mfr), .int (iZ Men), .int (iZ Mva), .int (iZ Mfk), .int (iZ Mfp), .int (iZ Mfs), .int (iZ Mse), .int (iZ Mlt), .ref Mo, .int (iZ Mdp), .int (iZ Mct), .ref Mk, .ref Ml, .ref Mb, .ref Mh, .ref Mc, .int (iZ Mdr), .int (iZ Mrs), .ref Mz, .ref Mr, .ref Mq, .int (iZ Mit), .int (iZ Mmk)]) hm Ma Mh Af (F_6 3) v4_44 v2_19 rfl rfl hM ⟨by omega, by omega⟩ ⟨by omega, by omega⟩ p_9) ci_X12_ruling qm_X12_333 ⟨Nat.le_of_ble_eq_true rfl, Nat.le_of_ble_eq_true rfl⟩ ⟨Nat.le_of_ble_eq_true rfl, Nat.le_of_ble_eq_true rfl⟩ 0 rfl rfl rfl hl.1 rfl (Nat.le_of_ble_eq_true rfl) dX12_peace_74 (fun z_51 hz_51 => ?_)
                      refine lv_aload_n hx hb dX12_peace_77 rfl (lv_at hl 3 rfl) ?_
                      refine lv_iconst (v := iZ 0) hx hb dX12_peace_78 (by decide) ?_
                      refine lv_iload_n hx hb dX12_peace_79 rfl (lv_at hl 2 rfl) ?_
                      refine CPV (As := [.int (iZ 0), .int (iZ v2_19)]) (rest := [.int (iZ z_51)]) hx hb hml hown hts hKK (hP.sub (ws' := [(hm, .inr (12, [.ref Ma, .ref Mn, .int (iZ Mst), .long Mtp, .long Mbt, .ref Ms, .ref My, .ref Mt, .ref Mp, .ref Mx, .int (iZ Mtd), .int (iZ Msz), .int (iZ Mtk), .int (iZ Mfr), .int (iZ Men), .int (iZ Mva), .int (iZ Mfk), .int (iZ Mfp), .int (iZ Mfs), .int (iZ Mse), .int (iZ Mlt), .ref Mo, .int (iZ Mdp), .int (iZ Mct), .ref Mk, .ref Ml, .ref Mb, .ref Mh, .ref Mc, .int (iZ Mdr), .int (iZ Mrs), .ref Mz, .ref Mr, .ref Mq, .int (iZ Mit), .int (iZ Mmk)])), (Ma, .inl (k 1, 5340, .inl Af)), (Mh, .inl (k 1, 120, .inl (F_6 3)))]) [0, 1, 5] rfl) (m_ruling l D k ([.ref Ma, .ref Mn, .int (iZ Mst), .long Mtp, .long Mbt, .ref Ms, .ref My, .ref Mt, .ref Mp, .ref Mx, .int (iZ Mtd), .int (iZ Msz), .int (iZ Mtk), .int (iZ Mfr), .int (iZ Men), .int (iZ Mva), .int (iZ Mfk), .int (iZ Mfp), .int (iZ Mfs), .int (iZ Mse), .int (iZ Mlt), .ref Mo, .int (iZ Mdp), .int (iZ Mct), .ref Mk, .ref Ml, .ref Mb, .ref Mh, .ref Mc, .int (iZ Mdr), .int (iZ Mrs), .ref Mz, .ref Mr, .ref Mq, .int (iZ Mit), .int (iZ Mmk)]) hm Ma Mh Af (F_6 3) 0 v2_19 rfl rfl hM ⟨by omega, by omega⟩ ⟨by omega, by omega⟩ p_9) ci_X12_ruling qm_X12_333 ⟨Nat.le_of_ble_eq_true rfl, Nat.le_of_ble_eq_true rfl⟩ ⟨Nat.le_of_ble_eq_true rfl, Nat.le_of_ble_eq_true rfl⟩ 0 rfl rfl rfl hl.1 rfl (Nat.le_of_ble_eq_true rfl) dX12_peace_80 (fun z_52 hz_52 => ?_)
                      refine lv_icmp_ne (tgt := 90) hx hb dX12_peace_83 (by decide) (fun c_53 => ?_) (fun c_53 => ?_)
                      ·
                        have c_53 := mt (zeq (x := iZ z_51) (y := iZ z_52) rfl rfl ⟨by omega, by omega⟩ ⟨by omega, by omega⟩).mpr c_53
                        refine lv_iconst (v := iZ 0) hx hb dX12_peace_90 (by decide) ?_
                        refine lv_istore_n (lv' := [(3, .int (iZ 0)), (4, .int (iZ v4_44)), (2, .int (iZ v2_19)), (0, .ref hm), (1, .int (iZ x1))]) hx hb dX12_peace_91 rfl hl (by decide) rfl (fun ls hl => ?_)
                        refine lv_iinc (v := iZ (v4_44 + 1)) (lv' := [(4, .int (iZ (v4_44 + 1))), (3, .int (iZ 0)), (2, .int (iZ v2_19)), (0, .ref hm), (1, .int (iZ x1))]) hx hb dX12_peace_92 hl (k := 1) rfl (iZ_add v4_44 1) (by decide) rfl (fun ls hl => ?_)
                        refine lv_goto (tgt := 44) hx hb dX12_peace_95 (by decide) ?_
                        exact ih44  0 (v4_44 + 1) _ _ _ (by omega) (show (0 ≤ (v4_44 + 1) ∧ (v4_44 + 1) ≤ (gz Af 0) + 1) from ⟨by omega, by omega⟩) (show 0 ≤ 0 ∧ 0 ≤ 1 from (by omega)) (hP.sub [0, 1, 2, 3, 4, 5] rfl) (hD.sub [0, 1, 2, 3, 4, 5] rfl rfl) hS (lv_sub hl [0, 1, 2, 3, 4] rfl)
                      ·
                        have c_53 := (zeq (x := iZ z_51) (y := iZ z_52) rfl rfl ⟨by omega, by omega⟩ ⟨by omega, by omega⟩).mp c_53
                        refine lv_iconst (v := iZ 1) hx hb dX12_peace_86 (by decide) ?_
                        refine lv_goto (tgt := 91) hx hb dX12_peace_87 (by decide) ?_
                        refine lv_istore_n (lv' := [(3, .int (iZ 1)), (4, .int (iZ v4_44)), (2, .int (iZ v2_19)), (0, .ref hm), (1, .int (iZ x1))]) hx hb dX12_peace_91 rfl hl (by decide) rfl (fun ls hl => ?_)
                        refine lv_iinc (v := iZ (v4_44 + 1)) (lv' := [(4, .int (iZ (v4_44 + 1))), (3, .int (iZ 1)), (2, .int (iZ v2_19)), (0, .ref hm), (1, .int (iZ x1))]) hx hb dX12_peace_92 hl (k := 1) rfl (iZ_add v4_44 1) (by decide) rfl (fun ls hl => ?_)
                        refine lv_goto (tgt := 44) hx hb dX12_peace_95 (by decide) ?_
                        exact ih44  1 (v4_44 + 1) _ _ _ (by omega) (show (0 ≤ (v4_44 + 1) ∧ (v4_44 + 1) ≤ (gz Af 0) + 1) from ⟨by omega, by omega⟩) (show 0 ≤ 1 ∧ 1 ≤ 1 from (by omega)) (hP.sub [0, 1, 2, 3, 4, 5] rfl) (hD.sub [0, 1, 2, 3, 4, 5] rfl rfl) hS (lv_sub hl [0, 1, 2, 3, 4] rfl)
            exact HL44 10 1 0 _ _ _ (by omega) (show (0 ≤ 0 ∧ 0 ≤ (gz Af 0) + 1) from ⟨by omega, by omega⟩) (show 0 ≤ 1 ∧ 1 ≤ 1 from (by omega)) (hP.sub [0, 1, 2, 3, 4, 5] rfl) (hD.sub [0, 1, 2, 3, 4, 5] rfl rfl) hS (lv_sub hl [0, 1, 2, 3, 4] rfl)
    exact HL19 504 x1 _ _ _ (by omega) (show (x1 ≤ x1 ∧ x1 ≤ (500) + 1) from ⟨by omega, by omega⟩) (hP.sub [0, 1, 2, 3, 4, 5] rfl) (hD.sub [0, 1, 2, 3, 4, 5] rfl rfl) hS (lv_sub hl [0, 1, 2] rfl)
  ·
    subst qz_1
    refine lv_if_ne (tgt := 13) hx hb dX12_peace_4 (by decide) (fun c => absurd (by decide) c) (fun _ => ?_)
    refine lv_aload_n hx hb dX12_peace_7 rfl (lv_at hl 0 rfl) ?_
    refine lv_iconst (v := iZ 1) hx hb dX12_peace_8 (by decide) ?_
    refine CWV (As := [.int (iZ 1)]) (rest := []) (wc := [(hm, .inr (12, [.ref Ma, .ref Mn, .int (iZ Mst), .long Mtp, .long Mbt, .ref Ms, .ref My, .ref Mt, .ref Mp, .ref Mx, .int (iZ Mtd), .int (iZ Msz), .int (iZ Mtk), .int (iZ Mfr), .int (iZ Men), .int (iZ Mva), .int (iZ Mfk), .int (iZ Mfp), .int (iZ Mfs), .int (iZ Mse), .int (iZ Mlt), .ref Mo, .int (iZ Mdp), .int (iZ Mct), .ref Mk, .ref Ml, .ref Mb, .ref Mh, .ref Mc, .int (iZ Mdr), .int (iZ Mrs), .ref Mz, .ref Mr, .ref Mq, .int (iZ Mit), .int (iZ Mmk)]))]) (wr := [(Ma, .inl (k 1, 5340, .inl Af)), (Mk, .inl (k 1, 6, .inl Kf)), (Ml, .inl (k 1, 6, .inl Lf)), (Mb, .inl (k 1, 6, .inl Bf)), (Mh, .inl (k 1, 120, .inl Hf))]) hx hb hml hown hts hKK hP hD hS hA (m_refuse l D k hm Ma Mn Ms My Mt Mp Mx Mo Mk Ml Mb Mh Mc Mz Mr Mq Mst Mtd Msz Mtk Mfr Men Mva Mfk Mfp Mfs Mse Mlt Mdp Mct Mdr Mrs Mit Mmk Mtp Mbt 1) ci_X12_refuse qm_X12_81 ⟨Nat.le_of_ble_eq_true rfl, Nat.le_of_ble_eq_true rfl⟩ ⟨Nat.le_of_ble_eq_true rfl, Nat.le_of_ble_eq_true rfl⟩ [0] [1, 2, 3, 4, 5] rfl rfl rfl rfl rfl (by decide) 0 rfl rfl rfl hl.1 rfl (Nat.le_of_ble_eq_true rfl) dX12_peace_9 (fun u_55 H locs hφ hP hD hS => ?_)
    obtain ⟨I_56, L_57, F_58, G_59⟩ := u_55
    refine W.eq (g2 := F0 m 12 ls [.int (iZ (-1))]) rfl ?_
    exact EWi hx hb hr hlocks hS (fun i => [(-1), 1].getD i 0, fun i => [0].getD i 0, fun i => [Kf, Lf, Bf, Hf].getD i (fun _ => 0), fun i => [].getD i (fun _ => 0)) rfl (show rgI Hf 0 1000000 120 from rgH) (hP.sub [5, 0, 1, 2, 3, 4] rfl) (hD.sub [5, 0, 1, 2, 3, 4] rfl rfl) dX12_peace_12
set_option maxHeartbeats 4000000 in
set_option maxRecDepth 100000 in
theorem q_reign (l : Launch) (D : va_G) (k : Nat → ClassId) (hm : Nat) (Ma : Nat) (Mn : Nat) (Ms : Nat) (My : Nat) (Mt : Nat) (Mp : Nat) (Mx : Nat) (Mo : Nat) (Mk : Nat) (Ml : Nat) (Mb : Nat) (Mh : Nat) (Mc : Nat) (Mz : Nat) (Mr : Nat) (Mq : Nat) (Mst : Int) (Mtd : Int) (Msz : Int) (Mtk : Int) (Mfr : Int) (Men : Int) (Mva : Int) (Mfk : Int) (Mfp : Int) (Mfs : Int) (Mse : Int) (Mlt : Int) (Mdp : Int) (Mct : Int) (Mdr : Int) (Mrs : Int) (Mit : Int) (Mmk : Int) (Mtp : Int64) (Mbt : Int64) (Af : Nat → Int32) (Kf : Nat → Int32) (Lf : Nat → Int32) (Bf : Nat → Int32) (Hf : Nat → Int32) (x1 : Int) (x2 : Int) (hM : M0 Af) (rgH : rgI Hf 0 1000000 120) (h9x1 : -2147483648 ≤ x1 ∧ x1 < 2147483648) (h9x2 : -2147483648 ≤ x2 ∧ x2 < 2147483648) : WD (σ := ((Nat → Int) × (Nat → Int64) × (Nat → Nat → Int32) × (Nat → Nat → Int64))) l yX12_reign cX12_reign 3 (some .int) 8 0 0 D k [.ref hm, .int (iZ x1), .int (iZ x2)] [(hm, .inr (12, [.ref Ma, .ref Mn, .int (iZ Mst), .long Mtp, .long Mbt, .ref Ms, .ref My, .ref Mt, .ref Mp, .ref Mx, .int (iZ Mtd), .int (iZ Msz), .int (iZ Mtk), .int (iZ Mfr), .int (iZ Men), .int (iZ Mva), .int (iZ Mfk), .int (iZ Mfp), .int (iZ Mfs), .int (iZ Mse), .int (iZ Mlt), .ref Mo, .int (iZ Mdp), .int (iZ Mct), .ref Mk, .ref Ml, .ref Mb, .ref Mh, .ref Mc, .int (iZ Mdr), .int (iZ Mrs), .ref Mz, .ref Mr, .ref Mq, .int (iZ Mit), .int (iZ Mmk)])), (Ma, .inl (k 1, 5340, .inl Af)), (Mk, .inl (k 1, 6, .inl Kf)), (Ml, .inl (k 1, 6, .inl Lf)), (Mb, .inl (k 1, 6, .inl Bf)), (Mh, .inl (k 1, 120, .inl Hf))] (fun u => some (.int (iZ (u.1 0)))) (fun u => rgI (u.2.2.1 3) 0 1000000 120) (fun u => [(hm, .inr (12, [.ref Ma, .ref Mn, .int (iZ (u.1 1)), .long Mtp, .long Mbt, .ref Ms, .ref My, .ref Mt, .ref Mp, .ref Mx, .int (iZ Mtd), .int (iZ Msz), .int (iZ Mtk), .int (iZ Mfr), .int (iZ Men), .int (iZ Mva), .int (iZ Mfk), .int (iZ Mfp), .int (iZ Mfs), .int (iZ Mse), .int (iZ Mlt), .ref Mo, .int (iZ Mdp), .int (iZ Mct), .ref Mk, .ref Ml, .ref Mb, .ref Mh, .ref Mc, .int (iZ Mdr), .int (iZ Mrs), .ref Mz, .ref Mr, .ref Mq, .int (iZ Mit), .int (iZ Mmk)])), (Ma, .inl (k 1, 5340, .inl Af)), (Mk, .inl (k 1, 6, .inl (u.2.2.1 0))), (Ml, .inl (k 1, 6, .inl (u.2.2.1 1))), (Mb, .inl (k 1, 6, .inl (u.2.2.1 2))), (Mh, .inl (k 1, 120, .inl (u.2.2.1 3)))]) := by
  refine MW (by decide) (Nat.le_of_ble_eq_true rfl) (fun p e s m below meth c ls A hx hb hml hr hlocks hin hts hown hKK hP hD hS hA hl => ?_)
  have hK := hKK.1
  have hl : lv_has ls 3 [(0, .ref hm), (1, .int (iZ x1)), (2, .int (iZ x2))] := hl
  obtain ⟨m0, m1, m3, m4, m5, mF, mO, mS⟩ := id hM
  refine lv_aload_n hx hb dX12_reign_0 rfl (lv_at hl 0 rfl) ?_
  refine lv_iload_n hx hb dX12_reign_1 rfl (lv_at hl 1 rfl) ?_
  refine CPV (As := [.int (iZ x1)]) (rest := []) hx hb hml hown hts hKK (hP.sub (ws' := [(hm, .inr (12, [.ref Ma, .ref Mn, .int (iZ Mst), .long Mtp, .long Mbt, .ref Ms, .ref My, .ref Mt, .ref Mp, .ref Mx, .int (iZ Mtd), .int (iZ Msz), .int (iZ Mtk), .int (iZ Mfr), .int (iZ Men), .int (iZ Mva), .int (iZ Mfk), .int (iZ Mfp), .int (iZ Mfs), .int (iZ Mse), .int (iZ Mlt), .ref Mo, .int (iZ Mdp), .int (iZ Mct), .ref Mk, .ref Ml, .ref Mb, .ref Mh, .ref Mc, .int (iZ Mdr), .int (iZ Mrs), .ref Mz, .ref Mr, .ref Mq, .int (iZ Mit), .int (iZ Mmk)])), (Ma, .inl (k 1, 5340, .inl Af))]) [0, 1] rfl) (m_isOrder l D k ([.ref Ma, .ref Mn, .int (iZ Mst), .long Mtp, .long Mbt, .ref Ms, .ref My, .ref Mt, .ref Mp, .ref Mx, .int (iZ Mtd), .int (iZ Msz), .int (iZ Mtk), .int (iZ Mfr), .int (iZ Men), .int (iZ Mva), .int (iZ Mfk), .int (iZ Mfp), .int (iZ Mfs), .int (iZ Mse), .int (iZ Mlt), .ref Mo, .int (iZ Mdp), .int (iZ Mct), .ref Mk, .ref Ml, .ref Mb, .ref Mh, .ref Mc, .int (iZ Mdr), .int (iZ Mrs), .ref Mz, .ref Mr, .ref Mq, .int (iZ Mit), .int (iZ Mmk)]) hm Ma Af x1 rfl hM ⟨by omega, by omega⟩) ci_X12_isOrder qm_X12_324 ⟨Nat.le_of_ble_eq_true rfl, Nat.le_of_ble_eq_true rfl⟩ ⟨Nat.le_of_ble_eq_true rfl, Nat.le_of_ble_eq_true rfl⟩ 0 rfl rfl rfl hl.1 rfl (Nat.le_of_ble_eq_true rfl) dX12_reign_2 (fun z_1 hz_1 => ?_)
  rcases hz_1 with ⟨qz_1, hz_1⟩ | ⟨qz_1, hz_1⟩
  ·
    subst qz_1
    refine lv_if_eq (tgt := 16) hx hb dX12_reign_5 (by decide) (fun c => absurd c (by decide)) (fun _ => ?_)
    refine lv_aload_n hx hb dX12_reign_8 rfl (lv_at hl 0 rfl) ?_
    refine lv_iload_n hx hb dX12_reign_9 rfl (lv_at hl 2 rfl) ?_
    refine CPV (As := [.int (iZ x2)]) (rest := []) hx hb hml hown hts hKK (hP.sub (ws' := [(hm, .inr (12, [.ref Ma, .ref Mn, .int (iZ Mst), .long Mtp, .long Mbt, .ref Ms, .ref My, .ref Mt, .ref Mp, .ref Mx, .int (iZ Mtd), .int (iZ Msz), .int (iZ Mtk), .int (iZ Mfr), .int (iZ Men), .int (iZ Mva), .int (iZ Mfk), .int (iZ Mfp), .int (iZ Mfs), .int (iZ Mse), .int (iZ Mlt), .ref Mo, .int (iZ Mdp), .int (iZ Mct), .ref Mk, .ref Ml, .ref Mb, .ref Mh, .ref Mc, .int (iZ Mdr), .int (iZ Mrs), .ref Mz, .ref Mr, .ref Mq, .int (iZ Mit), .int (iZ Mmk)])), (Ma, .inl (k 1, 5340, .inl Af))]) [0, 1] rfl) (m_isRock l D k ([.ref Ma, .ref Mn, .int (iZ Mst), .long Mtp, .long Mbt, .ref Ms, .ref My, .ref Mt, .ref Mp, .ref Mx, .int (iZ Mtd), .int (iZ Msz), .int (iZ Mtk), .int (iZ Mfr), .int (iZ Men), .int (iZ Mva), .int (iZ Mfk), .int (iZ Mfp), .int (iZ Mfs), .int (iZ Mse), .int (iZ Mlt), .ref Mo, .int (iZ Mdp), .int (iZ Mct), .ref Mk, .ref Ml, .ref Mb, .ref Mh, .ref Mc, .int (iZ Mdr), .int (iZ Mrs), .ref Mz, .ref Mr, .ref Mq, .int (iZ Mit), .int (iZ Mmk)]) hm Ma Af x2 rfl hM ⟨by omega, by omega⟩) ci_X12_isRock qm_X12_243 ⟨Nat.le_of_ble_eq_true rfl, Nat.le_of_ble_eq_true rfl⟩ ⟨Nat.le_of_ble_eq_true rfl, Nat.le_of_ble_eq_true rfl⟩ 0 rfl rfl rfl hl.1 rfl (Nat.le_of_ble_eq_true rfl) dX12_reign_10 (fun z_3 hz_3 => ?_)
    rcases hz_3 with ⟨qz_3, hz_3⟩ | ⟨qz_3, hz_3⟩
    ·
      subst qz_3
      refine lv_if_ne (tgt := 22) hx hb dX12_reign_13 (by decide) (fun _ => ?_) (fun c => absurd c (by decide))
      refine lv_aload_n hx hb dX12_reign_22 rfl (lv_at hl 0 rfl) ?_
      refine CWV (As := []) (rest := []) (wc := [(hm, .inr (12, [.ref Ma, .ref Mn, .int (iZ Mst), .long Mtp, .long Mbt, .ref Ms, .ref My, .ref Mt, .ref Mp, .ref Mx, .int (iZ Mtd), .int (iZ Msz), .int (iZ Mtk), .int (iZ Mfr), .int (iZ Men), .int (iZ Mva), .int (iZ Mfk), .int (iZ Mfp), .int (iZ Mfs), .int (iZ Mse), .int (iZ Mlt), .ref Mo, .int (iZ Mdp), .int (iZ Mct), .ref Mk, .ref Ml, .ref Mb, .ref Mh, .ref Mc, .int (iZ Mdr), .int (iZ Mrs), .ref Mz, .ref Mr, .ref Mq, .int (iZ Mit), .int (iZ Mmk)])), (Ma, .inl (k 1, 5340, .inl Af)), (Mk, .inl (k 1, 6, .inl Kf)), (Ml, .inl (k 1, 6, .inl Lf)), (Mb, .inl (k 1, 6, .inl Bf)), (Mh, .inl (k 1, 120, .inl Hf))]) (wr := []) hx hb hml hown hts hKK hP hD hS hA (m_laysOrders l D k hm Ma Mn Ms My Mt Mp Mx Mo Mk Ml Mb Mh Mc Mz Mr Mq Mst Mtd Msz Mtk Mfr Men Mva Mfk Mfp Mfs Mse Mlt Mdp Mct Mdr Mrs Mit Mmk Mtp Mbt Af Kf Lf Bf Hf hM rgH) ci_X12_laysOrders qm_X12_330 ⟨Nat.le_of_ble_eq_true rfl, Nat.le_of_ble_eq_true rfl⟩ ⟨Nat.le_of_ble_eq_true rfl, Nat.le_of_ble_eq_true rfl⟩ [0, 1, 2, 3, 4, 5] [] rfl rfl rfl rfl rfl (by decide) 0 rfl rfl rfl hl.1 rfl (Nat.le_of_ble_eq_true rfl) dX12_reign_23 (fun u_5 H locs hφ hP hD hS => ?_)
      obtain ⟨I_6, L_7, F_8, G_9⟩ := u_5
      have p_11 : rgI (F_8 3) 0 1000000 120 := hφ
      refine W.eq (g2 := F0 m 26 ls []) rfl ?_
      refine lv_aload_n hx hb dX12_reign_26 rfl (lv_at hl 0 rfl) ?_
      refine lv_aload_n hx hb dX12_reign_27 rfl (lv_at hl 0 rfl) ?_
      refine lv_iload_n hx hb dX12_reign_28 rfl (lv_at hl 1 rfl) ?_
      refine lv_iload_n hx hb dX12_reign_29 rfl (lv_at hl 2 rfl) ?_
      refine CPV (As := [.int (iZ x1), .int (iZ x2)]) (rest := [.ref hm]) hx hb hml hown hts hKK (hP.sub (ws' := [(hm, .inr (12, [.ref Ma, .ref Mn, .int (iZ Mst), .long Mtp, .long Mbt, .ref Ms, .ref My, .ref Mt, .ref Mp, .ref Mx, .int (iZ Mtd), .int (iZ Msz), .int (iZ Mtk), .int (iZ Mfr), .int (iZ Men), .int (iZ Mva), .int (iZ Mfk), .int (iZ Mfp), .int (iZ Mfs), .int (iZ Mse), .int (iZ Mlt), .ref Mo, .int (iZ Mdp), .int (iZ Mct), .ref Mk, .ref Ml, .ref Mb, .ref Mh, .ref Mc, .int (iZ Mdr), .int (iZ Mrs), .ref Mz, .ref Mr, .ref Mq, .int (iZ Mit), .int (iZ Mmk)])), (Ma, .inl (k 1, 5340, .inl Af)), (Mh, .inl (k 1, 120, .inl (F_8 3)))]) [0, 1, 5] rfl) (m_reignOf l D k ([.ref Ma, .ref Mn, .int (iZ Mst), .long Mtp, .long Mbt, .ref Ms, .ref My, .ref Mt, .ref Mp, .ref Mx, .int (iZ Mtd), .int (iZ Msz), .int (iZ Mtk), .int (iZ Mfr), .int (iZ Men), .int (iZ Mva), .int (iZ Mfk), .int (iZ Mfp), .int (iZ Mfs), .int (iZ Mse), .int (iZ Mlt), .ref Mo, .int (iZ Mdp), .int (iZ Mct), .ref Mk, .ref Ml, .ref Mb, .ref Mh, .ref Mc, .int (iZ Mdr), .int (iZ Mrs), .ref Mz, .ref Mr, .ref Mq, .int (iZ Mit), .int (iZ Mmk)]) hm Ma Mh Af (F_8 3) x1 x2 rfl rfl hM ⟨by omega, by omega⟩ ⟨by omega, by omega⟩ p_11) ci_X12_reignOf qm_X12_342 ⟨Nat.le_of_ble_eq_true rfl, Nat.le_of_ble_eq_true rfl⟩ ⟨Nat.le_of_ble_eq_true rfl, Nat.le_of_ble_eq_true rfl⟩ 0 rfl rfl rfl hl.1 rfl (Nat.le_of_ble_eq_true rfl) dX12_reign_30 (fun z_12 hz_12 => ?_)
      refine CWV (As := [.int (iZ z_12)]) (rest := []) (wc := [(hm, .inr (12, [.ref Ma, .ref Mn, .int (iZ Mst), .long Mtp, .long Mbt, .ref Ms, .ref My, .ref Mt, .ref Mp, .ref Mx, .int (iZ Mtd), .int (iZ Msz), .int (iZ Mtk), .int (iZ Mfr), .int (iZ Men), .int (iZ Mva), .int (iZ Mfk), .int (iZ Mfp), .int (iZ Mfs), .int (iZ Mse), .int (iZ Mlt), .ref Mo, .int (iZ Mdp), .int (iZ Mct), .ref Mk, .ref Ml, .ref Mb, .ref Mh, .ref Mc, .int (iZ Mdr), .int (iZ Mrs), .ref Mz, .ref Mr, .ref Mq, .int (iZ Mit), .int (iZ Mmk)]))]) (wr := [(Ma, .inl (k 1, 5340, .inl Af)), (Mk, .inl (k 1, 6, .inl (F_8 0))), (Ml, .inl (k 1, 6, .inl (F_8 1))), (Mb, .inl (k 1, 6, .inl (F_8 2))), (Mh, .inl (k 1, 120, .inl (F_8 3)))]) hx hb hml hown hts hKK hP hD hS hA (m_gives l D k hm Ma Mn Ms My Mt Mp Mx Mo Mk Ml Mb Mh Mc Mz Mr Mq Mst Mtd Msz Mtk Mfr Men Mva Mfk Mfp Mfs Mse Mlt Mdp Mct Mdr Mrs Mit Mmk Mtp Mbt z_12) ci_X12_gives qm_X12_85 ⟨Nat.le_of_ble_eq_true rfl, Nat.le_of_ble_eq_true rfl⟩ ⟨Nat.le_of_ble_eq_true rfl, Nat.le_of_ble_eq_true rfl⟩ [0] [1, 2, 3, 4, 5] rfl rfl rfl rfl rfl (by decide) 0 rfl rfl rfl hl.1 rfl (Nat.le_of_ble_eq_true rfl) dX12_reign_33 (fun u_13 H locs hφ hP hD hS => ?_)
      obtain ⟨I_14, L_15, F_16, G_17⟩ := u_13
      refine W.eq (g2 := F0 m 36 ls [.int (iZ z_12)]) rfl ?_
      exact EWi hx hb hr hlocks hS (fun i => [z_12, 0].getD i 0, fun i => [0].getD i 0, fun i => [(F_8 0), (F_8 1), (F_8 2), (F_8 3)].getD i (fun _ => 0), fun i => [].getD i (fun _ => 0)) rfl (show rgI (F_8 3) 0 1000000 120 from p_11) (hP.sub [5, 0, 1, 2, 3, 4] rfl) (hD.sub [5, 0, 1, 2, 3, 4] rfl rfl) dX12_reign_36
    ·
      subst qz_3
      refine lv_if_ne (tgt := 22) hx hb dX12_reign_13 (by decide) (fun c => absurd (by decide) c) (fun _ => ?_)
      refine lv_aload_n hx hb dX12_reign_16 rfl (lv_at hl 0 rfl) ?_
      refine lv_iconst (v := iZ 1) hx hb dX12_reign_17 (by decide) ?_
      refine CWV (As := [.int (iZ 1)]) (rest := []) (wc := [(hm, .inr (12, [.ref Ma, .ref Mn, .int (iZ Mst), .long Mtp, .long Mbt, .ref Ms, .ref My, .ref Mt, .ref Mp, .ref Mx, .int (iZ Mtd), .int (iZ Msz), .int (iZ Mtk), .int (iZ Mfr), .int (iZ Men), .int (iZ Mva), .int (iZ Mfk), .int (iZ Mfp), .int (iZ Mfs), .int (iZ Mse), .int (iZ Mlt), .ref Mo, .int (iZ Mdp), .int (iZ Mct), .ref Mk, .ref Ml, .ref Mb, .ref Mh, .ref Mc, .int (iZ Mdr), .int (iZ Mrs), .ref Mz, .ref Mr, .ref Mq, .int (iZ Mit), .int (iZ Mmk)]))]) (wr := [(Ma, .inl (k 1, 5340, .inl Af)), (Mk, .inl (k 1, 6, .inl Kf)), (Ml, .inl (k 1, 6, .inl Lf)), (Mb, .inl (k 1, 6, .inl Bf)), (Mh, .inl (k 1, 120, .inl Hf))]) hx hb hml hown hts hKK hP hD hS hA (m_refuse l D k hm Ma Mn Ms My Mt Mp Mx Mo Mk Ml Mb Mh Mc Mz Mr Mq Mst Mtd Msz Mtk Mfr Men Mva Mfk Mfp Mfs Mse Mlt Mdp Mct Mdr Mrs Mit Mmk Mtp Mbt 1) ci_X12_refuse qm_X12_81 ⟨Nat.le_of_ble_eq_true rfl, Nat.le_of_ble_eq_true rfl⟩ ⟨Nat.le_of_ble_eq_true rfl, Nat.le_of_ble_eq_true rfl⟩ [0] [1, 2, 3, 4, 5] rfl rfl rfl rfl rfl (by decide) 0 rfl rfl rfl hl.1 rfl (Nat.le_of_ble_eq_true rfl) dX12_reign_18 (fun u_20 H locs hφ hP hD hS => ?_)
      obtain ⟨I_21, L_22, F_23, G_24⟩ := u_20
      refine W.eq (g2 := F0 m 21 ls [.int (iZ (-1))]) rfl ?_
      exact EWi hx hb hr hlocks hS (fun i => [(-1), 1].getD i 0, fun i => [0].getD i 0, fun i => [Kf, Lf, Bf, Hf].getD i (fun _ => 0), fun i => [].getD i (fun _ => 0)) rfl (show rgI Hf 0 1000000 120 from rgH) (hP.sub [5, 0, 1, 2, 3, 4] rfl) (hD.sub [5, 0, 1, 2, 3, 4] rfl rfl) dX12_reign_21
  ·
    subst qz_1
    refine lv_if_eq (tgt := 16) hx hb dX12_reign_5 (by decide) (fun _ => ?_) (fun c => absurd (by decide) c)
    refine lv_aload_n hx hb dX12_reign_16 rfl (lv_at hl 0 rfl) ?_
    refine lv_iconst (v := iZ 1) hx hb dX12_reign_17 (by decide) ?_
    refine CWV (As := [.int (iZ 1)]) (rest := []) (wc := [(hm, .inr (12, [.ref Ma, .ref Mn, .int (iZ Mst), .long Mtp, .long Mbt, .ref Ms, .ref My, .ref Mt, .ref Mp, .ref Mx, .int (iZ Mtd), .int (iZ Msz), .int (iZ Mtk), .int (iZ Mfr), .int (iZ Men), .int (iZ Mva), .int (iZ Mfk), .int (iZ Mfp), .int (iZ Mfs), .int (iZ Mse), .int (iZ Mlt), .ref Mo, .int (iZ Mdp), .int (iZ Mct), .ref Mk, .ref Ml, .ref Mb, .ref Mh, .ref Mc, .int (iZ Mdr), .int (iZ Mrs), .ref Mz, .ref Mr, .ref Mq, .int (iZ Mit), .int (iZ Mmk)]))]) (wr := [(Ma, .inl (k 1, 5340, .inl Af)), (Mk, .inl (k 1, 6, .inl Kf)), (Ml, .inl (k 1, 6, .inl Lf)), (Mb, .inl (k 1, 6, .inl Bf)), (Mh, .inl (k 1, 120, .inl Hf))]) hx hb hml hown hts hKK hP hD hS hA (m_refuse l D k hm Ma Mn Ms My Mt Mp Mx Mo Mk Ml Mb Mh Mc Mz Mr Mq Mst Mtd Msz Mtk Mfr Men Mva Mfk Mfp Mfs Mse Mlt Mdp Mct Mdr Mrs Mit Mmk Mtp Mbt 1) ci_X12_refuse qm_X12_81 ⟨Nat.le_of_ble_eq_true rfl, Nat.le_of_ble_eq_true rfl⟩ ⟨Nat.le_of_ble_eq_true rfl, Nat.le_of_ble_eq_true rfl⟩ [0] [1, 2, 3, 4, 5] rfl rfl rfl rfl rfl (by decide) 0 rfl rfl rfl hl.1 rfl (Nat.le_of_ble_eq_true rfl) dX12_reign_18 (fun u_27 H locs hφ hP hD hS => ?_)
    obtain ⟨I_28, L_29, F_30, G_31⟩ := u_27
    refine W.eq (g2 := F0 m 21 ls [.int (iZ (-1))]) rfl ?_
    exact EWi hx hb hr hlocks hS (fun i => [(-1), 1].getD i 0, fun i => [0].getD i 0, fun i => [Kf, Lf, Bf, Hf].getD i (fun _ => 0), fun i => [].getD i (fun _ => 0)) rfl (show rgI Hf 0 1000000 120 from rgH) (hP.sub [5, 0, 1, 2, 3, 4] rfl) (hD.sub [5, 0, 1, 2, 3, 4] rfl rfl) dX12_reign_21
set_option maxHeartbeats 4000000 in
set_option maxRecDepth 100000 in
theorem q_idle (l : Launch) (D : va_G) (k : Nat → ClassId) (hm : Nat) (Ma : Nat) (Mn : Nat) (Ms : Nat) (My : Nat) (Mt : Nat) (Mp : Nat) (Mx : Nat) (Mo : Nat) (Mk : Nat) (Ml : Nat) (Mb : Nat) (Mh : Nat) (Mc : Nat) (Mz : Nat) (Mr : Nat) (Mq : Nat) (Mst : Int) (Mtd : Int) (Msz : Int) (Mtk : Int) (Mfr : Int) (Men : Int) (Mva : Int) (Mfk : Int) (Mfp : Int) (Mfs : Int) (Mse : Int) (Mlt : Int) (Mdp : Int) (Mct : Int) (Mdr : Int) (Mrs : Int) (Mit : Int) (Mmk : Int) (Mtp : Int64) (Mbt : Int64) (Af : Nat → Int32) (Kf : Nat → Int32) (Lf : Nat → Int32) (Bf : Nat → Int32) (Hf : Nat → Int32) (hM : M0 Af) (rgH : rgI Hf 0 1000000 120) : WD (σ := ((Nat → Int) × (Nat → Int64) × (Nat → Nat → Int32) × (Nat → Nat → Int64))) l yX12_idle cX12_idle 5 (some .int) 8 0 0 D k [.ref hm] [(hm, .inr (12, [.ref Ma, .ref Mn, .int (iZ Mst), .long Mtp, .long Mbt, .ref Ms, .ref My, .ref Mt, .ref Mp, .ref Mx, .int (iZ Mtd), .int (iZ Msz), .int (iZ Mtk), .int (iZ Mfr), .int (iZ Men), .int (iZ Mva), .int (iZ Mfk), .int (iZ Mfp), .int (iZ Mfs), .int (iZ Mse), .int (iZ Mlt), .ref Mo, .int (iZ Mdp), .int (iZ Mct), .ref Mk, .ref Ml, .ref Mb, .ref Mh, .ref Mc, .int (iZ Mdr), .int (iZ Mrs), .ref Mz, .ref Mr, .ref Mq, .int (iZ Mit), .int (iZ Mmk)])), (Ma, .inl (k 1, 5340, .inl Af)), (Mk, .inl (k 1, 6, .inl Kf)), (Ml, .inl (k 1, 6, .inl Lf)), (Mb, .inl (k 1, 6, .inl Bf)), (Mh, .inl (k 1, 120, .inl Hf))] (fun u => some (.int (iZ (u.1 0)))) (fun u => rgI (u.2.2.1 3) 0 1000000 120) (fun u => [(hm, .inr (12, [.ref Ma, .ref Mn, .int (iZ (u.1 1)), .long Mtp, .long Mbt, .ref Ms, .ref My, .ref Mt, .ref Mp, .ref Mx, .int (iZ Mtd), .int (iZ Msz), .int (iZ Mtk), .int (iZ Mfr), .int (iZ Men), .int (iZ Mva), .int (iZ Mfk), .int (iZ Mfp), .int (iZ Mfs), .int (iZ Mse), .int (iZ Mlt), .ref Mo, .int (iZ Mdp), .int (iZ Mct), .ref Mk, .ref Ml, .ref Mb, .ref Mh, .ref Mc, .int (iZ Mdr), .int (iZ Mrs), .ref Mz, .ref Mr, .ref Mq, .int (iZ Mit), .int (iZ Mmk)])), (Ma, .inl (k 1, 5340, .inl Af)), (Mk, .inl (k 1, 6, .inl (u.2.2.1 0))), (Ml, .inl (k 1, 6, .inl (u.2.2.1 1))), (Mb, .inl (k 1, 6, .inl (u.2.2.1 2))), (Mh, .inl (k 1, 120, .inl (u.2.2.1 3)))]) := by
  refine MW (by decide) (Nat.le_of_ble_eq_true rfl) (fun p e s m below meth c ls A hx hb hml hr hlocks hin hts hown hKK hP hD hS hA hl => ?_)
  have hK := hKK.1
  have hl : lv_has ls 5 [(0, .ref hm)] := hl
  obtain ⟨m0, m1, m3, m4, m5, mF, mO, mS⟩ := id hM
  refine lv_aload_n hx hb dX12_idle_0 rfl (lv_at hl 0 rfl) ?_
  refine CWV (As := []) (rest := []) (wc := [(hm, .inr (12, [.ref Ma, .ref Mn, .int (iZ Mst), .long Mtp, .long Mbt, .ref Ms, .ref My, .ref Mt, .ref Mp, .ref Mx, .int (iZ Mtd), .int (iZ Msz), .int (iZ Mtk), .int (iZ Mfr), .int (iZ Men), .int (iZ Mva), .int (iZ Mfk), .int (iZ Mfp), .int (iZ Mfs), .int (iZ Mse), .int (iZ Mlt), .ref Mo, .int (iZ Mdp), .int (iZ Mct), .ref Mk, .ref Ml, .ref Mb, .ref Mh, .ref Mc, .int (iZ Mdr), .int (iZ Mrs), .ref Mz, .ref Mr, .ref Mq, .int (iZ Mit), .int (iZ Mmk)])), (Ma, .inl (k 1, 5340, .inl Af)), (Mk, .inl (k 1, 6, .inl Kf)), (Ml, .inl (k 1, 6, .inl Lf)), (Mb, .inl (k 1, 6, .inl Bf)), (Mh, .inl (k 1, 120, .inl Hf))]) (wr := []) hx hb hml hown hts hKK hP hD hS hA (m_laysOrders l D k hm Ma Mn Ms My Mt Mp Mx Mo Mk Ml Mb Mh Mc Mz Mr Mq Mst Mtd Msz Mtk Mfr Men Mva Mfk Mfp Mfs Mse Mlt Mdp Mct Mdr Mrs Mit Mmk Mtp Mbt Af Kf Lf Bf Hf hM rgH) ci_X12_laysOrders qm_X12_330 ⟨Nat.le_of_ble_eq_true rfl, Nat.le_of_ble_eq_true rfl⟩ ⟨Nat.le_of_ble_eq_true rfl, Nat.le_of_ble_eq_true rfl⟩ [0, 1, 2, 3, 4, 5] [] rfl rfl rfl rfl rfl (by decide) 0 rfl rfl rfl hl.1 rfl (Nat.le_of_ble_eq_true rfl) dX12_idle_1 (fun u_1 H locs hφ hP hD hS => ?_)
  obtain ⟨I_2, L_3, F_4, G_5⟩ := u_1
  have p_7 : rgI (F_4 3) 0 1000000 120 := hφ
  refine W.eq (g2 := F0 m 4 ls []) rfl ?_
  refine lv_iconst (v := iZ 0) hx hb dX12_idle_4 (by decide) ?_
  refine lv_istore_n (lv' := [(1, .int (iZ 0)), (0, .ref hm)]) hx hb dX12_idle_5 rfl hl (by decide) rfl (fun ls hl => ?_)
  refine lv_iconst (v := iZ 0) hx hb dX12_idle_6 (by decide) ?_
  refine lv_istore_n (lv' := [(2, .int (iZ 0)), (1, .int (iZ 0)), (0, .ref hm)]) hx hb dX12_idle_7 rfl hl (by decide) rfl (fun ls hl => ?_)
  have HL8 : ∀ (fu : Nat) (v1_8 : Int) (v2_8 : Int) (H : Heap) (locs : List Loc) (ls : Array Slot), ((gz Af 4) + 2 - v2_8) < (fu : Int) → ((0 ≤ v2_8 ∧ v2_8 ≤ (gz Af 4) + 1)) → va_P D vwCl [(hm, .inr (12, [.ref Ma, .ref Mn, .int (iZ Mst), .long Mtp, .long Mbt, .ref Ms, .ref My, .ref Mt, .ref Mp, .ref Mx, .int (iZ Mtd), .int (iZ Msz), .int (iZ Mtk), .int (iZ Mfr), .int (iZ Men), .int (iZ Mva), .int (iZ Mfk), .int (iZ Mfp), .int (iZ Mfs), .int (iZ Mse), .int (iZ Mlt), .ref Mo, .int (iZ Mdp), .int (iZ Mct), .ref Mk, .ref Ml, .ref Mb, .ref Mh, .ref Mc, .int (iZ Mdr), .int (iZ Mrs), .ref Mz, .ref Mr, .ref Mq, .int (iZ Mit), .int (iZ Mmk)])), (Ma, .inl (k 1, 5340, .inl Af)), (Mk, .inl (k 1, 6, .inl (F_4 0))), (Ml, .inl (k 1, 6, .inl (F_4 1))), (Mb, .inl (k 1, 6, .inl (F_4 2))), (Mh, .inl (k 1, 120, .inl (F_4 3)))] H → va_D A [(hm, .inr (12, [.ref Ma, .ref Mn, .int (iZ Mst), .long Mtp, .long Mbt, .ref Ms, .ref My, .ref Mt, .ref Mp, .ref Mx, .int (iZ Mtd), .int (iZ Msz), .int (iZ Mtk), .int (iZ Mfr), .int (iZ Men), .int (iZ Mva), .int (iZ Mfk), .int (iZ Mfp), .int (iZ Mfs), .int (iZ Mse), .int (iZ Mlt), .ref Mo, .int (iZ Mdp), .int (iZ Mct), .ref Mk, .ref Ml, .ref Mb, .ref Mh, .ref Mc, .int (iZ Mdr), .int (iZ Mrs), .ref Mz, .ref Mr, .ref Mq, .int (iZ Mit), .int (iZ Mmk)])), (Ma, .inl (k 1, 5340, .inl Af)), (Mk, .inl (k 1, 6, .inl (F_4 0))), (Ml, .inl (k 1, 6, .inl (F_4 1))), (Mb, .inl (k 1, 6, .inl (F_4 2))), (Mh, .inl (k 1, 120, .inl (F_4 3)))] → va_S A s.heap H locs → lv_has ls 5 [(2, .int (iZ v2_8)), (1, .int (iZ v1_8)), (0, .ref hm)] → W p l e (rj 8 0 0) s m [.ref hm].toArray below meth c H locs 0 0 (MQ below (QW (σ := ((Nat → Int) × (Nat → Int64) × (Nat → Nat → Int32) × (Nat → Nat → Int64))) (fun u => some (.int (iZ (u.1 0)))) (fun u => rgI (u.2.2.1 3) 0 1000000 120) (fun u => [(hm, .inr (12, [.ref Ma, .ref Mn, .int (iZ (u.1 1)), .long Mtp, .long Mbt, .ref Ms, .ref My, .ref Mt, .ref Mp, .ref Mx, .int (iZ Mtd), .int (iZ Msz), .int (iZ Mtk), .int (iZ Mfr), .int (iZ Men), .int (iZ Mva), .int (iZ Mfk), .int (iZ Mfp), .int (iZ Mfs), .int (iZ Mse), .int (iZ Mlt), .ref Mo, .int (iZ Mdp), .int (iZ Mct), .ref Mk, .ref Ml, .ref Mb, .ref Mh, .ref Mc, .int (iZ Mdr), .int (iZ Mrs), .ref Mz, .ref Mr, .ref Mq, .int (iZ Mit), .int (iZ Mmk)])), (Ma, .inl (k 1, 5340, .inl Af)), (Mk, .inl (k 1, 6, .inl (u.2.2.1 0))), (Ml, .inl (k 1, 6, .inl (u.2.2.1 1))), (Mb, .inl (k 1, 6, .inl (u.2.2.1 2))), (Mh, .inl (k 1, 120, .inl (u.2.2.1 3)))]) D A) [.ref hm].toArray s 0 0 A) (F0 m 8 ls []) := by
    intro fu
    induction fu with
    | zero => intro v1_8 v2_8 H locs ls hμ8 hi8 hP hD hS hl; exact absurd hμ8 (by omega)
    | succ fu ih8 =>
      intro v1_8 v2_8 H locs ls hμ8 hi8 hP hD hS hl
      refine lv_iload_n hx hb dX12_idle_8 rfl (lv_at hl 0 rfl) ?_
      refine lv_aload_n hx hb dX12_idle_9 rfl (lv_at hl 2 rfl) ?_
      refine va_get (D := D) (ci := 12) (v := .ref Ma) (C := RX12) (T := TX12) (N := 36) hx hb hts iX12 hown hK hP 0 rfl rfl 0 (by decide) (hts _ qf_X12_7) (fun _ h => h) rfl dX12_idle_10 ?_
      refine lv_iconst (v := iZ 4) hx hb dX12_idle_13 (by decide) ?_
      refine va_iald hx hb hK hP 1 1 rfl rfl (zin (e := 4) (n := 5340) ⟨by omega, by omega⟩ (by decide)) dX12_idle_14 ?_
      refine lv_topi (fun x_8 ex_8 => ?_)
      obtain rfl : x_8 = iZ (gz Af 4) := ex_8.trans (gz_eq ⟨by omega, by omega⟩)
      have h_9 := gz_rg Af 4
      refine lv_icmp_ge (tgt := 68) hx hb dX12_idle_15 (by decide) (fun c_10 => ?_) (fun c_10 => ?_)
      ·
        have c_10 := (zle (x := iZ (gz Af 4)) (y := iZ v2_8) rfl rfl ⟨by omega, by omega⟩ ⟨by omega, by omega⟩).mp c_10
        refine lv_aload_n hx hb dX12_idle_68 rfl (lv_at hl 2 rfl) ?_
        refine lv_iload_n hx hb dX12_idle_69 rfl (lv_at hl 1 rfl) ?_
        refine CWV (As := [.int (iZ v1_8)]) (rest := []) (wc := [(hm, .inr (12, [.ref Ma, .ref Mn, .int (iZ Mst), .long Mtp, .long Mbt, .ref Ms, .ref My, .ref Mt, .ref Mp, .ref Mx, .int (iZ Mtd), .int (iZ Msz), .int (iZ Mtk), .int (iZ Mfr), .int (iZ Men), .int (iZ Mva), .int (iZ Mfk), .int (iZ Mfp), .int (iZ Mfs), .int (iZ Mse), .int (iZ Mlt), .ref Mo, .int (iZ Mdp), .int (iZ Mct), .ref Mk, .ref Ml, .ref Mb, .ref Mh, .ref Mc, .int (iZ Mdr), .int (iZ Mrs), .ref Mz, .ref Mr, .ref Mq, .int (iZ Mit), .int (iZ Mmk)]))]) (wr := [(Ma, .inl (k 1, 5340, .inl Af)), (Mk, .inl (k 1, 6, .inl (F_4 0))), (Ml, .inl (k 1, 6, .inl (F_4 1))), (Mb, .inl (k 1, 6, .inl (F_4 2))), (Mh, .inl (k 1, 120, .inl (F_4 3)))]) hx hb hml hown hts hKK hP hD hS hA (m_gives l D k hm Ma Mn Ms My Mt Mp Mx Mo Mk Ml Mb Mh Mc Mz Mr Mq Mst Mtd Msz Mtk Mfr Men Mva Mfk Mfp Mfs Mse Mlt Mdp Mct Mdr Mrs Mit Mmk Mtp Mbt v1_8) ci_X12_gives qm_X12_85 ⟨Nat.le_of_ble_eq_true rfl, Nat.le_of_ble_eq_true rfl⟩ ⟨Nat.le_of_ble_eq_true rfl, Nat.le_of_ble_eq_true rfl⟩ [0] [1, 2, 3, 4, 5] rfl rfl rfl rfl rfl (by decide) 0 rfl rfl rfl hl.1 rfl (Nat.le_of_ble_eq_true rfl) dX12_idle_70 (fun u_11 H locs hφ hP hD hS => ?_)
        obtain ⟨I_12, L_13, F_14, G_15⟩ := u_11
        refine W.eq (g2 := F0 m 73 ls [.int (iZ v1_8)]) rfl ?_
        exact EWi hx hb hr hlocks hS (fun i => [v1_8, 0].getD i 0, fun i => [0].getD i 0, fun i => [(F_4 0), (F_4 1), (F_4 2), (F_4 3)].getD i (fun _ => 0), fun i => [].getD i (fun _ => 0)) rfl (show rgI (F_4 3) 0 1000000 120 from p_7) (hP.sub [5, 0, 1, 2, 3, 4] rfl) (hD.sub [5, 0, 1, 2, 3, 4] rfl rfl) dX12_idle_73
      ·
        have c_10 := mt (zle (x := iZ (gz Af 4)) (y := iZ v2_8) rfl rfl ⟨by omega, by omega⟩ ⟨by omega, by omega⟩).mpr c_10
        refine lv_iconst (v := iZ 0) hx hb dX12_idle_18 (by decide) ?_
        refine lv_istore_n (lv' := [(3, .int (iZ 0)), (2, .int (iZ v2_8)), (1, .int (iZ v1_8)), (0, .ref hm)]) hx hb dX12_idle_19 rfl hl (by decide) rfl (fun ls hl => ?_)
        refine lv_iconst (v := iZ 0) hx hb dX12_idle_20 (by decide) ?_
        refine lv_istore (lv' := [(4, .int (iZ 0)), (3, .int (iZ 0)), (2, .int (iZ v2_8)), (1, .int (iZ v1_8)), (0, .ref hm)]) hx hb dX12_idle_21 hl (by decide) rfl (fun ls hl => ?_)
        have HL23 : ∀ (fu : Nat) (v3_23 : Int) (v4_23 : Int) (H : Heap) (locs : List Loc) (ls : Array Slot), ((gz Af 0) + 2 - v4_23) < (fu : Int) → ((0 ≤ v4_23 ∧ v4_23 ≤ (gz Af 0) + 1)) → (0 ≤ v3_23 ∧ v3_23 ≤ v4_23 * 501) → va_P D vwCl [(hm, .inr (12, [.ref Ma, .ref Mn, .int (iZ Mst), .long Mtp, .long Mbt, .ref Ms, .ref My, .ref Mt, .ref Mp, .ref Mx, .int (iZ Mtd), .int (iZ Msz), .int (iZ Mtk), .int (iZ Mfr), .int (iZ Men), .int (iZ Mva), .int (iZ Mfk), .int (iZ Mfp), .int (iZ Mfs), .int (iZ Mse), .int (iZ Mlt), .ref Mo, .int (iZ Mdp), .int (iZ Mct), .ref Mk, .ref Ml, .ref Mb, .ref Mh, .ref Mc, .int (iZ Mdr), .int (iZ Mrs), .ref Mz, .ref Mr, .ref Mq, .int (iZ Mit), .int (iZ Mmk)])), (Ma, .inl (k 1, 5340, .inl Af)), (Mk, .inl (k 1, 6, .inl (F_4 0))), (Ml, .inl (k 1, 6, .inl (F_4 1))), (Mb, .inl (k 1, 6, .inl (F_4 2))), (Mh, .inl (k 1, 120, .inl (F_4 3)))] H → va_D A [(hm, .inr (12, [.ref Ma, .ref Mn, .int (iZ Mst), .long Mtp, .long Mbt, .ref Ms, .ref My, .ref Mt, .ref Mp, .ref Mx, .int (iZ Mtd), .int (iZ Msz), .int (iZ Mtk), .int (iZ Mfr), .int (iZ Men), .int (iZ Mva), .int (iZ Mfk), .int (iZ Mfp), .int (iZ Mfs), .int (iZ Mse), .int (iZ Mlt), .ref Mo, .int (iZ Mdp), .int (iZ Mct), .ref Mk, .ref Ml, .ref Mb, .ref Mh, .ref Mc, .int (iZ Mdr), .int (iZ Mrs), .ref Mz, .ref Mr, .ref Mq, .int (iZ Mit), .int (iZ Mmk)])), (Ma, .inl (k 1, 5340, .inl Af)), (Mk, .inl (k 1, 6, .inl (F_4 0))), (Ml, .inl (k 1, 6, .inl (F_4 1))), (Mb, .inl (k 1, 6, .inl (F_4 2))), (Mh, .inl (k 1, 120, .inl (F_4 3)))] → va_S A s.heap H locs → lv_has ls 5 [(4, .int (iZ v4_23)), (3, .int (iZ v3_23)), (2, .int (iZ v2_8)), (1, .int (iZ v1_8)), (0, .ref hm)] → W p l e (rj 8 0 0) s m [.ref hm].toArray below meth c H locs 0 0 (MQ below (QW (σ := ((Nat → Int) × (Nat → Int64) × (Nat → Nat → Int32) × (Nat → Nat → Int64))) (fun u => some (.int (iZ (u.1 0)))) (fun u => rgI (u.2.2.1 3) 0 1000000 120) (fun u => [(hm, .inr (12, [.ref Ma, .ref Mn, .int (iZ (u.1 1)), .long Mtp, .long Mbt, .ref Ms, .ref My, .ref Mt, .ref Mp, .ref Mx, .int (iZ Mtd), .int (iZ Msz), .int (iZ Mtk), .int (iZ Mfr), .int (iZ Men), .int (iZ Mva), .int (iZ Mfk), .int (iZ Mfp), .int (iZ Mfs), .int (iZ Mse), .int (iZ Mlt), .ref Mo, .int (iZ Mdp), .int (iZ Mct), .ref Mk, .ref Ml, .ref Mb, .ref Mh, .ref Mc, .int (iZ Mdr), .int (iZ Mrs), .ref Mz, .ref Mr, .ref Mq, .int (iZ Mit), .int (iZ Mmk)])), (Ma, .inl (k 1, 5340, .inl Af)), (Mk, .inl (k 1, 6, .inl (u.2.2.1 0))), (Ml, .inl (k 1, 6, .inl (u.2.2.1 1))), (Mb, .inl (k 1, 6, .inl (u.2.2.1 2))), (Mh, .inl (k 1, 120, .inl (u.2.2.1 3)))]) D A) [.ref hm].toArray s 0 0 A) (F0 m 23 ls []) := by
          intro fu
          induction fu with
          | zero => intro v3_23 v4_23 H locs ls hμ23 hi23 hf0_23 hP hD hS hl; exact absurd hμ23 (by omega)
          | succ fu ih23 =>
            intro v3_23 v4_23 H locs ls hμ23 hi23 hf0_23 hP hD hS hl
            refine lv_iload hx hb dX12_idle_23 (lv_at hl 0 rfl) ?_
            refine lv_aload_n hx hb dX12_idle_25 rfl (lv_at hl 4 rfl) ?_
            refine va_get (D := D) (ci := 12) (v := .ref Ma) (C := RX12) (T := TX12) (N := 36) hx hb hts iX12 hown hK hP 0 rfl rfl 0 (by decide) (hts _ qf_X12_7) (fun _ h => h) rfl dX12_idle_26 ?_
            refine lv_iconst (v := iZ 0) hx hb dX12_idle_29 (by decide) ?_
            refine va_iald hx hb hK hP 1 1 rfl rfl (zin (e := 0) (n := 5340) ⟨by omega, by omega⟩ (by decide)) dX12_idle_30 ?_
            refine lv_topi (fun x_17 ex_17 => ?_)
            obtain rfl : x_17 = iZ (gz Af 0) := ex_17.trans (gz_eq ⟨by omega, by omega⟩)
            have h_18 := gz_rg Af 0
            refine lv_icmp_ge (tgt := 50) hx hb dX12_idle_31 (by decide) (fun c_19 => ?_) (fun c_19 => ?_)
            ·
              have c_19 := (zle (x := iZ (gz Af 0)) (y := iZ v4_23) rfl rfl ⟨by omega, by omega⟩ ⟨by omega, by omega⟩).mp c_19
              refine lv_iload_n hx hb dX12_idle_50 rfl (lv_at hl 3 rfl) ?_
              refine lv_iload_n hx hb dX12_idle_51 rfl (lv_at hl 1 rfl) ?_
              refine lv_if_ne (tgt := 59) hx hb dX12_idle_52 (by decide) (fun c_20 => ?_) (fun c_20 => ?_)
              ·
                have c_20 := mt (zeq (x := iZ v3_23) (y := iZ 0) rfl rfl ⟨by omega, by omega⟩ ⟨by omega, by omega⟩).mpr c_20
                refine lv_iconst (v := iZ 0) hx hb dX12_idle_59 (by decide) ?_
                refine lv_iadd hx hb dX12_idle_60 ?_
                refine lv_topi (fun x_21 ex_21 => ?_)
                obtain rfl : x_21 = iZ (v1_8 + 0) := ex_21.trans (iZ_add v1_8 0)
                refine lv_istore_n (lv' := [(1, .int (iZ (v1_8 + 0))), (4, .int (iZ v4_23)), (3, .int (iZ v3_23)), (2, .int (iZ v2_8)), (0, .ref hm)]) hx hb dX12_idle_61 rfl hl (by decide) rfl (fun ls hl => ?_)
                refine lv_iinc (v := iZ (v2_8 + 1)) (lv' := [(2, .int (iZ (v2_8 + 1))), (1, .int (iZ (v1_8 + 0))), (4, .int (iZ v4_23)), (3, .int (iZ v3_23)), (0, .ref hm)]) hx hb dX12_idle_62 hl (k := 3) rfl (iZ_add v2_8 1) (by decide) rfl (fun ls hl => ?_)
                refine lv_goto (tgt := 8) hx hb dX12_idle_65 (by decide) ?_
                exact ih8  (v1_8 + 0) (v2_8 + 1) _ _ _ (by omega) (show (0 ≤ (v2_8 + 1) ∧ (v2_8 + 1) ≤ (gz Af 4) + 1) from ⟨by omega, by omega⟩) (hP.sub [0, 1, 2, 3, 4, 5] rfl) (hD.sub [0, 1, 2, 3, 4, 5] rfl rfl) hS (lv_sub hl [0, 1, 4] rfl)
              ·
                have c_20 := (zeq (x := iZ v3_23) (y := iZ 0) rfl rfl ⟨by omega, by omega⟩ ⟨by omega, by omega⟩).mp c_20
                refine lv_iconst (v := iZ 1) hx hb dX12_idle_55 (by decide) ?_
                refine lv_goto (tgt := 60) hx hb dX12_idle_56 (by decide) ?_
                refine lv_iadd hx hb dX12_idle_60 ?_
                refine lv_topi (fun x_22 ex_22 => ?_)
                obtain rfl : x_22 = iZ (v1_8 + 1) := ex_22.trans (iZ_add v1_8 1)
                refine lv_istore_n (lv' := [(1, .int (iZ (v1_8 + 1))), (4, .int (iZ v4_23)), (3, .int (iZ v3_23)), (2, .int (iZ v2_8)), (0, .ref hm)]) hx hb dX12_idle_61 rfl hl (by decide) rfl (fun ls hl => ?_)
                refine lv_iinc (v := iZ (v2_8 + 1)) (lv' := [(2, .int (iZ (v2_8 + 1))), (1, .int (iZ (v1_8 + 1))), (4, .int (iZ v4_23)), (3, .int (iZ v3_23)), (0, .ref hm)]) hx hb dX12_idle_62 hl (k := 3) rfl (iZ_add v2_8 1) (by decide) rfl (fun ls hl => ?_)
                refine lv_goto (tgt := 8) hx hb dX12_idle_65 (by decide) ?_
                exact ih8  (v1_8 + 1) (v2_8 + 1) _ _ _ (by omega) (show (0 ≤ (v2_8 + 1) ∧ (v2_8 + 1) ≤ (gz Af 4) + 1) from ⟨by omega, by omega⟩) (hP.sub [0, 1, 2, 3, 4, 5] rfl) (hD.sub [0, 1, 2, 3, 4, 5] rfl rfl) hS (lv_sub hl [0, 1, 4] rfl)
            ·
              have c_19 := mt (zle (x := iZ (gz Af 0)) (y := iZ v4_23) rfl rfl ⟨by omega, by omega⟩ ⟨by omega, by omega⟩).mpr c_19
              refine lv_iload_n hx hb dX12_idle_34 rfl (lv_at hl 1 rfl) ?_
              refine lv_aload_n hx hb dX12_idle_35 rfl (lv_at hl 4 rfl) ?_
              refine lv_iload_n hx hb dX12_idle_36 rfl (lv_at hl 2 rfl) ?_
              refine lv_iload hx hb dX12_idle_37 (lv_at hl 0 rfl) ?_
              refine CPV (As := [.int (iZ v2_8), .int (iZ v4_23)]) (rest := [.int (iZ v3_23)]) hx hb hml hown hts hKK (hP.sub (ws' := [(hm, .inr (12, [.ref Ma, .ref Mn, .int (iZ Mst), .long Mtp, .long Mbt, .ref Ms, .ref My, .ref Mt, .ref Mp, .ref Mx, .int (iZ Mtd), .int (iZ Msz), .int (iZ Mtk), .int (iZ Mfr), .int (iZ Men), .int (iZ Mva), .int (iZ Mfk), .int (iZ Mfp), .int (iZ Mfs), .int (iZ Mse), .int (iZ Mlt), .ref Mo, .int (iZ Mdp), .int (iZ Mct), .ref Mk, .ref Ml, .ref Mb, .ref Mh, .ref Mc, .int (iZ Mdr), .int (iZ Mrs), .ref Mz, .ref Mr, .ref Mq, .int (iZ Mit), .int (iZ Mmk)])), (Ma, .inl (k 1, 5340, .inl Af)), (Mh, .inl (k 1, 120, .inl (F_4 3)))]) [0, 1, 5] rfl) (m_reignOf l D k ([.ref Ma, .ref Mn, .int (iZ Mst), .long Mtp, .long Mbt, .ref Ms, .ref My, .ref Mt, .ref Mp, .ref Mx, .int (iZ Mtd), .int (iZ Msz), .int (iZ Mtk), .int (iZ Mfr), .int (iZ Men), .int (iZ Mva), .int (iZ Mfk), .int (iZ Mfp), .int (iZ Mfs), .int (iZ Mse), .int (iZ Mlt), .ref Mo, .int (iZ Mdp), .int (iZ Mct), .ref Mk, .ref Ml, .ref Mb, .ref Mh, .ref Mc, .int (iZ Mdr), .int (iZ Mrs), .ref Mz, .ref Mr, .ref Mq, .int (iZ Mit), .int (iZ Mmk)]) hm Ma Mh Af (F_4 3) v2_8 v4_23 rfl rfl hM ⟨by omega, by omega⟩ ⟨by omega, by omega⟩ p_7) ci_X12_reignOf qm_X12_342 ⟨Nat.le_of_ble_eq_true rfl, Nat.le_of_ble_eq_true rfl⟩ ⟨Nat.le_of_ble_eq_true rfl, Nat.le_of_ble_eq_true rfl⟩ 0 rfl rfl rfl hl.1 rfl (Nat.le_of_ble_eq_true rfl) dX12_idle_39 (fun z_23 hz_23 => ?_)
              refine lv_iadd hx hb dX12_idle_42 ?_
              refine lv_topi (fun x_24 ex_24 => ?_)
              obtain rfl : x_24 = iZ (v3_23 + z_23) := ex_24.trans (iZ_add v3_23 z_23)
              refine lv_istore_n (lv' := [(3, .int (iZ (v3_23 + z_23))), (4, .int (iZ v4_23)), (2, .int (iZ v2_8)), (1, .int (iZ v1_8)), (0, .ref hm)]) hx hb dX12_idle_43 rfl hl (by decide) rfl (fun ls hl => ?_)
              refine lv_iinc (v := iZ (v4_23 + 1)) (lv' := [(4, .int (iZ (v4_23 + 1))), (3, .int (iZ (v3_23 + z_23))), (2, .int (iZ v2_8)), (1, .int (iZ v1_8)), (0, .ref hm)]) hx hb dX12_idle_44 hl (k := 1) rfl (iZ_add v4_23 1) (by decide) rfl (fun ls hl => ?_)
              refine lv_goto (tgt := 23) hx hb dX12_idle_47 (by decide) ?_
              exact ih23  (v3_23 + z_23) (v4_23 + 1) _ _ _ (by omega) (show (0 ≤ (v4_23 + 1) ∧ (v4_23 + 1) ≤ (gz Af 0) + 1) from ⟨by omega, by omega⟩) (show 0 ≤ (v3_23 + z_23) ∧ (v3_23 + z_23) ≤ (v4_23 + 1) * 501 from (by omega)) (hP.sub [0, 1, 2, 3, 4, 5] rfl) (hD.sub [0, 1, 2, 3, 4, 5] rfl rfl) hS (lv_sub hl [0, 1, 2, 3, 4] rfl)
        exact HL23 10 0 0 _ _ _ (by omega) (show (0 ≤ 0 ∧ 0 ≤ (gz Af 0) + 1) from ⟨by omega, by omega⟩) (show 0 ≤ 0 ∧ 0 ≤ 0 * 501 from (by omega)) (hP.sub [0, 1, 2, 3, 4, 5] rfl) (hD.sub [0, 1, 2, 3, 4, 5] rfl rfl) hS (lv_sub hl [0, 1, 2, 3, 4] rfl)
  exact HL8 24 0 0 _ _ _ (by omega) (show (0 ≤ 0 ∧ 0 ≤ (gz Af 4) + 1) from ⟨by omega, by omega⟩) (hP.sub [0, 1, 2, 3, 4, 5] rfl) (hD.sub [0, 1, 2, 3, 4, 5] rfl rfl) hS (lv_sub hl [0, 1, 2] rfl)
set_option maxHeartbeats 4000000 in
set_option maxRecDepth 100000 in
theorem q_kth (l : Launch) (D : va_G) (k : Nat → ClassId) (hm : Nat) (Ma : Nat) (Mn : Nat) (Ms : Nat) (My : Nat) (Mt : Nat) (Mp : Nat) (Mx : Nat) (Mo : Nat) (Mk : Nat) (Ml : Nat) (Mb : Nat) (Mh : Nat) (Mc : Nat) (Mz : Nat) (Mr : Nat) (Mq : Nat) (Mst : Int) (Mtd : Int) (Msz : Int) (Mtk : Int) (Mfr : Int) (Men : Int) (Mva : Int) (Mfk : Int) (Mfp : Int) (Mfs : Int) (Mse : Int) (Mlt : Int) (Mdp : Int) (Mct : Int) (Mdr : Int) (Mrs : Int) (Mit : Int) (Mmk : Int) (Mtp : Int64) (Mbt : Int64) (Af : Nat → Int32) (Kf : Nat → Int32) (Lf : Nat → Int32) (Bf : Nat → Int32) (Hf : Nat → Int32) (x1 : Int) (x2 : Int) (hM : M0 Af) (rgH : rgI Hf 0 1000000 120) (h9x1 : -2147483648 ≤ x1 ∧ x1 < 2147483648) (h9x2 : -2147483648 ≤ x2 ∧ x2 < 2147483648) : WD (σ := ((Nat → Int) × (Nat → Int64) × (Nat → Nat → Int32) × (Nat → Nat → Int64))) l yX12_kth cX12_kth 7 (some .int) 8 0 0 D k [.ref hm, .int (iZ x1), .int (iZ x2)] [(hm, .inr (12, [.ref Ma, .ref Mn, .int (iZ Mst), .long Mtp, .long Mbt, .ref Ms, .ref My, .ref Mt, .ref Mp, .ref Mx, .int (iZ Mtd), .int (iZ Msz), .int (iZ Mtk), .int (iZ Mfr), .int (iZ Men), .int (iZ Mva), .int (iZ Mfk), .int (iZ Mfp), .int (iZ Mfs), .int (iZ Mse), .int (iZ Mlt), .ref Mo, .int (iZ Mdp), .int (iZ Mct), .ref Mk, .ref Ml, .ref Mb, .ref Mh, .ref Mc, .int (iZ Mdr), .int (iZ Mrs), .ref Mz, .ref Mr, .ref Mq, .int (iZ Mit), .int (iZ Mmk)])), (Ma, .inl (k 1, 5340, .inl Af)), (Mk, .inl (k 1, 6, .inl Kf)), (Ml, .inl (k 1, 6, .inl Lf)), (Mb, .inl (k 1, 6, .inl Bf)), (Mh, .inl (k 1, 120, .inl Hf))] (fun u => some (.int (iZ (u.1 0)))) (fun u => rgI (u.2.2.1 3) 0 1000000 120) (fun u => [(hm, .inr (12, [.ref Ma, .ref Mn, .int (iZ (u.1 1)), .long Mtp, .long Mbt, .ref Ms, .ref My, .ref Mt, .ref Mp, .ref Mx, .int (iZ Mtd), .int (iZ Msz), .int (iZ Mtk), .int (iZ Mfr), .int (iZ Men), .int (iZ Mva), .int (iZ Mfk), .int (iZ Mfp), .int (iZ Mfs), .int (iZ Mse), .int (iZ Mlt), .ref Mo, .int (iZ Mdp), .int (iZ Mct), .ref Mk, .ref Ml, .ref Mb, .ref Mh, .ref Mc, .int (iZ Mdr), .int (iZ Mrs), .ref Mz, .ref Mr, .ref Mq, .int (iZ Mit), .int (iZ Mmk)])), (Ma, .inl (k 1, 5340, .inl Af)), (Mk, .inl (k 1, 6, .inl (u.2.2.1 0))), (Ml, .inl (k 1, 6, .inl (u.2.2.1 1))), (Mb, .inl (k 1, 6, .inl (u.2.2.1 2))), (Mh, .inl (k 1, 120, .inl (u.2.2.1 3)))]) := by
  refine MW (by decide) (Nat.le_of_ble_eq_true rfl) (fun p e s m below meth c ls A hx hb hml hr hlocks hin hts hown hKK hP hD hS hA hl => ?_)
  have hK := hKK.1
  have hl : lv_has ls 7 [(0, .ref hm), (1, .int (iZ x1)), (2, .int (iZ x2))] := hl
  obtain ⟨m0, m1, m3, m4, m5, mF, mO, mS⟩ := id hM
  refine lv_aload_n hx hb dX12_kth_0 rfl (lv_at hl 0 rfl) ?_
  refine lv_iload_n hx hb dX12_kth_1 rfl (lv_at hl 1 rfl) ?_
  refine CPV (As := [.int (iZ x1)]) (rest := []) hx hb hml hown hts hKK (hP.sub (ws' := [(hm, .inr (12, [.ref Ma, .ref Mn, .int (iZ Mst), .long Mtp, .long Mbt, .ref Ms, .ref My, .ref Mt, .ref Mp, .ref Mx, .int (iZ Mtd), .int (iZ Msz), .int (iZ Mtk), .int (iZ Mfr), .int (iZ Men), .int (iZ Mva), .int (iZ Mfk), .int (iZ Mfp), .int (iZ Mfs), .int (iZ Mse), .int (iZ Mlt), .ref Mo, .int (iZ Mdp), .int (iZ Mct), .ref Mk, .ref Ml, .ref Mb, .ref Mh, .ref Mc, .int (iZ Mdr), .int (iZ Mrs), .ref Mz, .ref Mr, .ref Mq, .int (iZ Mit), .int (iZ Mmk)])), (Ma, .inl (k 1, 5340, .inl Af))]) [0, 1] rfl) (m_isRock l D k ([.ref Ma, .ref Mn, .int (iZ Mst), .long Mtp, .long Mbt, .ref Ms, .ref My, .ref Mt, .ref Mp, .ref Mx, .int (iZ Mtd), .int (iZ Msz), .int (iZ Mtk), .int (iZ Mfr), .int (iZ Men), .int (iZ Mva), .int (iZ Mfk), .int (iZ Mfp), .int (iZ Mfs), .int (iZ Mse), .int (iZ Mlt), .ref Mo, .int (iZ Mdp), .int (iZ Mct), .ref Mk, .ref Ml, .ref Mb, .ref Mh, .ref Mc, .int (iZ Mdr), .int (iZ Mrs), .ref Mz, .ref Mr, .ref Mq, .int (iZ Mit), .int (iZ Mmk)]) hm Ma Af x1 rfl hM ⟨by omega, by omega⟩) ci_X12_isRock qm_X12_243 ⟨Nat.le_of_ble_eq_true rfl, Nat.le_of_ble_eq_true rfl⟩ ⟨Nat.le_of_ble_eq_true rfl, Nat.le_of_ble_eq_true rfl⟩ 0 rfl rfl rfl hl.1 rfl (Nat.le_of_ble_eq_true rfl) dX12_kth_2 (fun z_1 hz_1 => ?_)
  rcases hz_1 with ⟨qz_1, hz_1⟩ | ⟨qz_1, hz_1⟩
  ·
    subst qz_1
    refine lv_if_ne (tgt := 14) hx hb dX12_kth_5 (by decide) (fun _ => ?_) (fun c => absurd c (by decide))
    refine lv_aload_n hx hb dX12_kth_14 rfl (lv_at hl 0 rfl) ?_
    refine CWV (As := []) (rest := []) (wc := [(hm, .inr (12, [.ref Ma, .ref Mn, .int (iZ Mst), .long Mtp, .long Mbt, .ref Ms, .ref My, .ref Mt, .ref Mp, .ref Mx, .int (iZ Mtd), .int (iZ Msz), .int (iZ Mtk), .int (iZ Mfr), .int (iZ Men), .int (iZ Mva), .int (iZ Mfk), .int (iZ Mfp), .int (iZ Mfs), .int (iZ Mse), .int (iZ Mlt), .ref Mo, .int (iZ Mdp), .int (iZ Mct), .ref Mk, .ref Ml, .ref Mb, .ref Mh, .ref Mc, .int (iZ Mdr), .int (iZ Mrs), .ref Mz, .ref Mr, .ref Mq, .int (iZ Mit), .int (iZ Mmk)])), (Ma, .inl (k 1, 5340, .inl Af)), (Mk, .inl (k 1, 6, .inl Kf)), (Ml, .inl (k 1, 6, .inl Lf)), (Mb, .inl (k 1, 6, .inl Bf)), (Mh, .inl (k 1, 120, .inl Hf))]) (wr := []) hx hb hml hown hts hKK hP hD hS hA (m_laysOrders l D k hm Ma Mn Ms My Mt Mp Mx Mo Mk Ml Mb Mh Mc Mz Mr Mq Mst Mtd Msz Mtk Mfr Men Mva Mfk Mfp Mfs Mse Mlt Mdp Mct Mdr Mrs Mit Mmk Mtp Mbt Af Kf Lf Bf Hf hM rgH) ci_X12_laysOrders qm_X12_330 ⟨Nat.le_of_ble_eq_true rfl, Nat.le_of_ble_eq_true rfl⟩ ⟨Nat.le_of_ble_eq_true rfl, Nat.le_of_ble_eq_true rfl⟩ [0, 1, 2, 3, 4, 5] [] rfl rfl rfl rfl rfl (by decide) 0 rfl rfl rfl hl.1 rfl (Nat.le_of_ble_eq_true rfl) dX12_kth_15 (fun u_3 H locs hφ hP hD hS => ?_)
    obtain ⟨I_4, L_5, F_6, G_7⟩ := u_3
    have p_9 : rgI (F_6 3) 0 1000000 120 := hφ
    refine W.eq (g2 := F0 m 18 ls []) rfl ?_
    refine lv_iconst (v := iZ 0) hx hb dX12_kth_18 (by decide) ?_
    refine lv_istore_n (lv' := [(3, .int (iZ 0)), (0, .ref hm), (1, .int (iZ x1)), (2, .int (iZ x2))]) hx hb dX12_kth_19 rfl hl (by decide) rfl (fun ls hl => ?_)
    have HL20 : ∀ (fu : Nat) (v3_20 : Int) (H : Heap) (locs : List Loc) (ls : Array Slot), ((gz Af 4) + 2 - v3_20) < (fu : Int) → ((0 ≤ v3_20 ∧ v3_20 ≤ (gz Af 4) + 1)) → va_P D vwCl [(hm, .inr (12, [.ref Ma, .ref Mn, .int (iZ Mst), .long Mtp, .long Mbt, .ref Ms, .ref My, .ref Mt, .ref Mp, .ref Mx, .int (iZ Mtd), .int (iZ Msz), .int (iZ Mtk), .int (iZ Mfr), .int (iZ Men), .int (iZ Mva), .int (iZ Mfk), .int (iZ Mfp), .int (iZ Mfs), .int (iZ Mse), .int (iZ Mlt), .ref Mo, .int (iZ Mdp), .int (iZ Mct), .ref Mk, .ref Ml, .ref Mb, .ref Mh, .ref Mc, .int (iZ Mdr), .int (iZ Mrs), .ref Mz, .ref Mr, .ref Mq, .int (iZ Mit), .int (iZ Mmk)])), (Ma, .inl (k 1, 5340, .inl Af)), (Mk, .inl (k 1, 6, .inl (F_6 0))), (Ml, .inl (k 1, 6, .inl (F_6 1))), (Mb, .inl (k 1, 6, .inl (F_6 2))), (Mh, .inl (k 1, 120, .inl (F_6 3)))] H → va_D A [(hm, .inr (12, [.ref Ma, .ref Mn, .int (iZ Mst), .long Mtp, .long Mbt, .ref Ms, .ref My, .ref Mt, .ref Mp, .ref Mx, .int (iZ Mtd), .int (iZ Msz), .int (iZ Mtk), .int (iZ Mfr), .int (iZ Men), .int (iZ Mva), .int (iZ Mfk), .int (iZ Mfp), .int (iZ Mfs), .int (iZ Mse), .int (iZ Mlt), .ref Mo, .int (iZ Mdp), .int (iZ Mct), .ref Mk, .ref Ml, .ref Mb, .ref Mh, .ref Mc, .int (iZ Mdr), .int (iZ Mrs), .ref Mz, .ref Mr, .ref Mq, .int (iZ Mit), .int (iZ Mmk)])), (Ma, .inl (k 1, 5340, .inl Af)), (Mk, .inl (k 1, 6, .inl (F_6 0))), (Ml, .inl (k 1, 6, .inl (F_6 1))), (Mb, .inl (k 1, 6, .inl (F_6 2))), (Mh, .inl (k 1, 120, .inl (F_6 3)))] → va_S A s.heap H locs → lv_has ls 7 [(3, .int (iZ v3_20)), (0, .ref hm), (1, .int (iZ x1)), (2, .int (iZ x2))] → W p l e (rj 8 0 0) s m [.ref hm, .int (iZ x1), .int (iZ x2)].toArray below meth c H locs 0 0 (MQ below (QW (σ := ((Nat → Int) × (Nat → Int64) × (Nat → Nat → Int32) × (Nat → Nat → Int64))) (fun u => some (.int (iZ (u.1 0)))) (fun u => rgI (u.2.2.1 3) 0 1000000 120) (fun u => [(hm, .inr (12, [.ref Ma, .ref Mn, .int (iZ (u.1 1)), .long Mtp, .long Mbt, .ref Ms, .ref My, .ref Mt, .ref Mp, .ref Mx, .int (iZ Mtd), .int (iZ Msz), .int (iZ Mtk), .int (iZ Mfr), .int (iZ Men), .int (iZ Mva), .int (iZ Mfk), .int (iZ Mfp), .int (iZ Mfs), .int (iZ Mse), .int (iZ Mlt), .ref Mo, .int (iZ Mdp), .int (iZ Mct), .ref Mk, .ref Ml, .ref Mb, .ref Mh, .ref Mc, .int (iZ Mdr), .int (iZ Mrs), .ref Mz, .ref Mr, .ref Mq, .int (iZ Mit), .int (iZ Mmk)])), (Ma, .inl (k 1, 5340, .inl Af)), (Mk, .inl (k 1, 6, .inl (u.2.2.1 0))), (Ml, .inl (k 1, 6, .inl (u.2.2.1 1))), (Mb, .inl (k 1, 6, .inl (u.2.2.1 2))), (Mh, .inl (k 1, 120, .inl (u.2.2.1 3)))]) D A) [.ref hm, .int (iZ x1), .int (iZ x2)].toArray s 0 0 A) (F0 m 20 ls []) := by
      intro fu
      induction fu with
      | zero => intro v3_20 H locs ls hμ20 hi20 hP hD hS hl; exact absurd hμ20 (by omega)
      | succ fu ih20 =>
        intro v3_20 H locs ls hμ20 hi20 hP hD hS hl
        refine lv_iload_n hx hb dX12_kth_20 rfl (lv_at hl 0 rfl) ?_
        refine lv_aload_n hx hb dX12_kth_21 rfl (lv_at hl 1 rfl) ?_
        refine va_get (D := D) (ci := 12) (v := .ref Ma) (C := RX12) (T := TX12) (N := 36) hx hb hts iX12 hown hK hP 0 rfl rfl 0 (by decide) (hts _ qf_X12_7) (fun _ h => h) rfl dX12_kth_22 ?_
        refine lv_iconst (v := iZ 4) hx hb dX12_kth_25 (by decide) ?_
        refine va_iald hx hb hK hP 1 1 rfl rfl (zin (e := 4) (n := 5340) ⟨by omega, by omega⟩ (by decide)) dX12_kth_26 ?_
        refine lv_topi (fun x_10 ex_10 => ?_)
        obtain rfl : x_10 = iZ (gz Af 4) := ex_10.trans (gz_eq ⟨by omega, by omega⟩)
        have h_11 := gz_rg Af 4
        refine lv_icmp_ge (tgt := 141) hx hb dX12_kth_27 (by decide) (fun c_12 => ?_) (fun c_12 => ?_)
        ·
          have c_12 := (zle (x := iZ (gz Af 4)) (y := iZ v3_20) rfl rfl ⟨by omega, by omega⟩ ⟨by omega, by omega⟩).mp c_12
          refine lv_aload_n hx hb dX12_kth_141 rfl (lv_at hl 1 rfl) ?_
          refine lv_bipush (v := iZ 6) hx hb dX12_kth_142 (by decide) ?_
          refine CWV (As := [.int (iZ 6)]) (rest := []) (wc := [(hm, .inr (12, [.ref Ma, .ref Mn, .int (iZ Mst), .long Mtp, .long Mbt, .ref Ms, .ref My, .ref Mt, .ref Mp, .ref Mx, .int (iZ Mtd), .int (iZ Msz), .int (iZ Mtk), .int (iZ Mfr), .int (iZ Men), .int (iZ Mva), .int (iZ Mfk), .int (iZ Mfp), .int (iZ Mfs), .int (iZ Mse), .int (iZ Mlt), .ref Mo, .int (iZ Mdp), .int (iZ Mct), .ref Mk, .ref Ml, .ref Mb, .ref Mh, .ref Mc, .int (iZ Mdr), .int (iZ Mrs), .ref Mz, .ref Mr, .ref Mq, .int (iZ Mit), .int (iZ Mmk)]))]) (wr := [(Ma, .inl (k 1, 5340, .inl Af)), (Mk, .inl (k 1, 6, .inl (F_6 0))), (Ml, .inl (k 1, 6, .inl (F_6 1))), (Mb, .inl (k 1, 6, .inl (F_6 2))), (Mh, .inl (k 1, 120, .inl (F_6 3)))]) hx hb hml hown hts hKK hP hD hS hA (m_refuse l D k hm Ma Mn Ms My Mt Mp Mx Mo Mk Ml Mb Mh Mc Mz Mr Mq Mst Mtd Msz Mtk Mfr Men Mva Mfk Mfp Mfs Mse Mlt Mdp Mct Mdr Mrs Mit Mmk Mtp Mbt 6) ci_X12_refuse qm_X12_81 ⟨Nat.le_of_ble_eq_true rfl, Nat.le_of_ble_eq_true rfl⟩ ⟨Nat.le_of_ble_eq_true rfl, Nat.le_of_ble_eq_true rfl⟩ [0] [1, 2, 3, 4, 5] rfl rfl rfl rfl rfl (by decide) 0 rfl rfl rfl hl.1 rfl (Nat.le_of_ble_eq_true rfl) dX12_kth_144 (fun u_13 H locs hφ hP hD hS => ?_)
          obtain ⟨I_14, L_15, F_16, G_17⟩ := u_13
          refine W.eq (g2 := F0 m 147 ls [.int (iZ (-1))]) rfl ?_
          exact EWi hx hb hr hlocks hS (fun i => [(-1), 6].getD i 0, fun i => [0].getD i 0, fun i => [(F_6 0), (F_6 1), (F_6 2), (F_6 3)].getD i (fun _ => 0), fun i => [].getD i (fun _ => 0)) rfl (show rgI (F_6 3) 0 1000000 120 from p_9) (hP.sub [5, 0, 1, 2, 3, 4] rfl) (hD.sub [5, 0, 1, 2, 3, 4] rfl rfl) dX12_kth_147
        ·
          have c_12 := mt (zle (x := iZ (gz Af 4)) (y := iZ v3_20) rfl rfl ⟨by omega, by omega⟩ ⟨by omega, by omega⟩).mpr c_12
          refine lv_aload_n hx hb dX12_kth_30 rfl (lv_at hl 1 rfl) ?_
          refine va_get (D := D) (ci := 12) (v := .ref Mh) (C := RX12) (T := TX12) (N := 36) hx hb hts iX12 hown hK hP 0 rfl rfl 27 (by decide) (hts _ qf_X12_56) (fun _ h => h) rfl dX12_kth_31 ?_
          refine lv_bipush (v := iZ 6) hx hb dX12_kth_34 (by decide) ?_
          refine lv_iload_n hx hb dX12_kth_36 rfl (lv_at hl 0 rfl) ?_
          refine lv_imul hx hb dX12_kth_37 ?_
          refine lv_topi (fun x_19 ex_19 => ?_)
          obtain rfl : x_19 = iZ (6 * v3_20) := ex_19.trans (iZ_mul 6 v3_20)
          refine lv_iload_n hx hb dX12_kth_38 rfl (lv_at hl 2 rfl) ?_
          refine lv_iadd hx hb dX12_kth_39 ?_
          refine lv_topi (fun x_20 ex_20 => ?_)
          obtain rfl : x_20 = iZ ((6 * v3_20) + x1) := ex_20.trans (iZ_add (6 * v3_20) x1)
          refine va_iald hx hb hK hP 5 1 rfl rfl (zin (e := ((6 * v3_20) + x1)) (n := 120) ⟨by omega, by omega⟩ (by decide)) dX12_kth_40 ?_
          refine lv_topi (fun x_21 ex_21 => ?_)
          obtain rfl : x_21 = iZ (gz (F_6 3) ((6 * v3_20) + x1)) := ex_21.trans (gz_eq ⟨by omega, by omega⟩)
          have h_22 := p_9 ((6 * v3_20) + x1) (by omega) (by omega)
          refine lv_istore (lv' := [(4, .int (iZ (gz (F_6 3) ((6 * v3_20) + x1)))), (3, .int (iZ v3_20)), (0, .ref hm), (1, .int (iZ x1)), (2, .int (iZ x2))]) hx hb dX12_kth_41 hl (by decide) rfl (fun ls hl => ?_)
          refine lv_iconst (v := iZ 0) hx hb dX12_kth_43 (by decide) ?_
          refine lv_istore (lv' := [(5, .int (iZ 0)), (4, .int (iZ (gz (F_6 3) ((6 * v3_20) + x1)))), (3, .int (iZ v3_20)), (0, .ref hm), (1, .int (iZ x1)), (2, .int (iZ x2))]) hx hb dX12_kth_44 hl (by decide) rfl (fun ls hl => ?_)
          refine lv_iconst (v := iZ 0) hx hb dX12_kth_46 (by decide) ?_
          refine lv_istore (lv' := [(6, .int (iZ 0)), (5, .int (iZ 0)), (4, .int (iZ (gz (F_6 3) ((6 * v3_20) + x1)))), (3, .int (iZ v3_20)), (0, .ref hm), (1, .int (iZ x1)), (2, .int (iZ x2))]) hx hb dX12_kth_47 hl (by decide) rfl (fun ls hl => ?_)
          have HL49 : ∀ (fu : Nat) (v5_49 : Int) (v6_49 : Int) (H : Heap) (locs : List Loc) (ls : Array Slot), ((gz Af 4) + 2 - v6_49) < (fu : Int) → ((0 ≤ v6_49 ∧ v6_49 ≤ (gz Af 4) + 1)) → (0 ≤ v5_49 ∧ v5_49 ≤ v6_49) → va_P D vwCl [(hm, .inr (12, [.ref Ma, .ref Mn, .int (iZ Mst), .long Mtp, .long Mbt, .ref Ms, .ref My, .ref Mt, .ref Mp, .ref Mx, .int (iZ Mtd), .int (iZ Msz), .int (iZ Mtk), .int (iZ Mfr), .int (iZ Men), .int (iZ Mva), .int (iZ Mfk), .int (iZ Mfp), .int (iZ Mfs), .int (iZ Mse), .int (iZ Mlt), .ref Mo, .int (iZ Mdp), .int (iZ Mct), .ref Mk, .ref Ml, .ref Mb, .ref Mh, .ref Mc, .int (iZ Mdr), .int (iZ Mrs), .ref Mz, .ref Mr, .ref Mq, .int (iZ Mit), .int (iZ Mmk)])), (Ma, .inl (k 1, 5340, .inl Af)), (Mk, .inl (k 1, 6, .inl (F_6 0))), (Ml, .inl (k 1, 6, .inl (F_6 1))), (Mb, .inl (k 1, 6, .inl (F_6 2))), (Mh, .inl (k 1, 120, .inl (F_6 3)))] H → va_D A [(hm, .inr (12, [.ref Ma, .ref Mn, .int (iZ Mst), .long Mtp, .long Mbt, .ref Ms, .ref My, .ref Mt, .ref Mp, .ref Mx, .int (iZ Mtd), .int (iZ Msz), .int (iZ Mtk), .int (iZ Mfr), .int (iZ Men), .int (iZ Mva), .int (iZ Mfk), .int (iZ Mfp), .int (iZ Mfs), .int (iZ Mse), .int (iZ Mlt), .ref Mo, .int (iZ Mdp), .int (iZ Mct), .ref Mk, .ref Ml, .ref Mb, .ref Mh, .ref Mc, .int (iZ Mdr), .int (iZ Mrs), .ref Mz, .ref Mr, .ref Mq, .int (iZ Mit), .int (iZ Mmk)])), (Ma, .inl (k 1, 5340, .inl Af)), (Mk, .inl (k 1, 6, .inl (F_6 0))), (Ml, .inl (k 1, 6, .inl (F_6 1))), (Mb, .inl (k 1, 6, .inl (F_6 2))), (Mh, .inl (k 1, 120, .inl (F_6 3)))] → va_S A s.heap H locs → lv_has ls 7 [(6, .int (iZ v6_49)), (5, .int (iZ v5_49)), (4, .int (iZ (gz (F_6 3) ((6 * v3_20) + x1)))), (3, .int (iZ v3_20)), (0, .ref hm), (1, .int (iZ x1)), (2, .int (iZ x2))] → W p l e (rj 8 0 0) s m [.ref hm, .int (iZ x1), .int (iZ x2)].toArray below meth c H locs 0 0 (MQ below (QW (σ := ((Nat → Int) × (Nat → Int64) × (Nat → Nat → Int32) × (Nat → Nat → Int64))) (fun u => some (.int (iZ (u.1 0)))) (fun u => rgI (u.2.2.1 3) 0 1000000 120) (fun u => [(hm, .inr (12, [.ref Ma, .ref Mn, .int (iZ (u.1 1)), .long Mtp, .long Mbt, .ref Ms, .ref My, .ref Mt, .ref Mp, .ref Mx, .int (iZ Mtd), .int (iZ Msz), .int (iZ Mtk), .int (iZ Mfr), .int (iZ Men), .int (iZ Mva), .int (iZ Mfk), .int (iZ Mfp), .int (iZ Mfs), .int (iZ Mse), .int (iZ Mlt), .ref Mo, .int (iZ Mdp), .int (iZ Mct), .ref Mk, .ref Ml, .ref Mb, .ref Mh, .ref Mc, .int (iZ Mdr), .int (iZ Mrs), .ref Mz, .ref Mr, .ref Mq, .int (iZ Mit), .int (iZ Mmk)])), (Ma, .inl (k 1, 5340, .inl Af)), (Mk, .inl (k 1, 6, .inl (u.2.2.1 0))), (Ml, .inl (k 1, 6, .inl (u.2.2.1 1))), (Mb, .inl (k 1, 6, .inl (u.2.2.1 2))), (Mh, .inl (k 1, 120, .inl (u.2.2.1 3)))]) D A) [.ref hm, .int (iZ x1), .int (iZ x2)].toArray s 0 0 A) (F0 m 49 ls []) := by
            intro fu
            induction fu with
            | zero => intro v5_49 v6_49 H locs ls hμ49 hi49 hf0_49 hP hD hS hl; exact absurd hμ49 (by omega)
            | succ fu ih49 =>
              intro v5_49 v6_49 H locs ls hμ49 hi49 hf0_49 hP hD hS hl
              refine lv_iload hx hb dX12_kth_49 (lv_at hl 0 rfl) ?_
              refine lv_aload_n hx hb dX12_kth_51 rfl (lv_at hl 4 rfl) ?_
              refine va_get (D := D) (ci := 12) (v := .ref Ma) (C := RX12) (T := TX12) (N := 36) hx hb hts iX12 hown hK hP 0 rfl rfl 0 (by decide) (hts _ qf_X12_7) (fun _ h => h) rfl dX12_kth_52 ?_
              refine lv_iconst (v := iZ 4) hx hb dX12_kth_55 (by decide) ?_
              refine va_iald hx hb hK hP 1 1 rfl rfl (zin (e := 4) (n := 5340) ⟨by omega, by omega⟩ (by decide)) dX12_kth_56 ?_
              refine lv_topi (fun x_23 ex_23 => ?_)
              obtain rfl : x_23 = iZ (gz Af 4) := ex_23.trans (gz_eq ⟨by omega, by omega⟩)
              have h_24 := gz_rg Af 4
              refine lv_icmp_ge (tgt := 116) hx hb dX12_kth_57 (by decide) (fun c_25 => ?_) (fun c_25 => ?_)
              ·
                have c_25 := (zle (x := iZ (gz Af 4)) (y := iZ v6_49) rfl rfl ⟨by omega, by omega⟩ ⟨by omega, by omega⟩).mp c_25
                refine lv_iload hx hb dX12_kth_116 (lv_at hl 2 rfl) ?_
                refine lv_ldc (own := RX12) (v := 1000000) hx hb hown (hts _ qk_X12_88) dX12_kth_118 ?_
                refine W.eq (g2 := F0 m 120 ls [.int (iZ 1000000), .int (iZ (gz (F_6 3) ((6 * v3_20) + x1)))]) rfl ?_
                refine lv_icmp_ge (tgt := 135) hx hb dX12_kth_120 (by decide) (fun c_26 => ?_) (fun c_26 => ?_)
                ·
                  have c_26 := (zle (x := iZ 1000000) (y := iZ (gz (F_6 3) ((6 * v3_20) + x1))) rfl rfl ⟨by omega, by omega⟩ ⟨by omega, by omega⟩).mp c_26
                  refine lv_iinc (v := iZ (v3_20 + 1)) (lv' := [(3, .int (iZ (v3_20 + 1))), (6, .int (iZ v6_49)), (5, .int (iZ v5_49)), (4, .int (iZ (gz (F_6 3) ((6 * v3_20) + x1)))), (0, .ref hm), (1, .int (iZ x1)), (2, .int (iZ x2))]) hx hb dX12_kth_135 hl (k := 3) rfl (iZ_add v3_20 1) (by decide) rfl (fun ls hl => ?_)
                  refine lv_goto (tgt := 20) hx hb dX12_kth_138 (by decide) ?_
                  exact ih20  (v3_20 + 1) _ _ _ (by omega) (show (0 ≤ (v3_20 + 1) ∧ (v3_20 + 1) ≤ (gz Af 4) + 1) from ⟨by omega, by omega⟩) (hP.sub [0, 1, 2, 3, 4, 5] rfl) (hD.sub [0, 1, 2, 3, 4, 5] rfl rfl) hS (lv_sub hl [0, 4, 5, 6] rfl)
                ·
                  have c_26 := mt (zle (x := iZ 1000000) (y := iZ (gz (F_6 3) ((6 * v3_20) + x1))) rfl rfl ⟨by omega, by omega⟩ ⟨by omega, by omega⟩).mpr c_26
                  refine lv_iload hx hb dX12_kth_123 (lv_at hl 1 rfl) ?_
                  refine lv_iload_n hx hb dX12_kth_125 rfl (lv_at hl 6 rfl) ?_
                  refine lv_icmp_ne (tgt := 135) hx hb dX12_kth_126 (by decide) (fun c_27 => ?_) (fun c_27 => ?_)
                  ·
                    have c_27 := mt (zeq (x := iZ v5_49) (y := iZ x2) rfl rfl ⟨by omega, by omega⟩ ⟨by omega, by omega⟩).mpr c_27
                    refine lv_iinc (v := iZ (v3_20 + 1)) (lv' := [(3, .int (iZ (v3_20 + 1))), (6, .int (iZ v6_49)), (5, .int (iZ v5_49)), (4, .int (iZ (gz (F_6 3) ((6 * v3_20) + x1)))), (0, .ref hm), (1, .int (iZ x1)), (2, .int (iZ x2))]) hx hb dX12_kth_135 hl (k := 3) rfl (iZ_add v3_20 1) (by decide) rfl (fun ls hl => ?_)
                    refine lv_goto (tgt := 20) hx hb dX12_kth_138 (by decide) ?_
                    exact ih20  (v3_20 + 1) _ _ _ (by omega) (show (0 ≤ (v3_20 + 1) ∧ (v3_20 + 1) ≤ (gz Af 4) + 1) from ⟨by omega, by omega⟩) (hP.sub [0, 1, 2, 3, 4, 5] rfl) (hD.sub [0, 1, 2, 3, 4, 5] rfl rfl) hS (lv_sub hl [0, 4, 5, 6] rfl)
                  ·
                    have c_27 := (zeq (x := iZ v5_49) (y := iZ x2) rfl rfl ⟨by omega, by omega⟩ ⟨by omega, by omega⟩).mp c_27
                    refine lv_aload_n hx hb dX12_kth_129 rfl (lv_at hl 4 rfl) ?_
                    refine lv_iload_n hx hb dX12_kth_130 rfl (lv_at hl 3 rfl) ?_
                    refine CWV (As := [.int (iZ v3_20)]) (rest := []) (wc := [(hm, .inr (12, [.ref Ma, .ref Mn, .int (iZ Mst), .long Mtp, .long Mbt, .ref Ms, .ref My, .ref Mt, .ref Mp, .ref Mx, .int (iZ Mtd), .int (iZ Msz), .int (iZ Mtk), .int (iZ Mfr), .int (iZ Men), .int (iZ Mva), .int (iZ Mfk), .int (iZ Mfp), .int (iZ Mfs), .int (iZ Mse), .int (iZ Mlt), .ref Mo, .int (iZ Mdp), .int (iZ Mct), .ref Mk, .ref Ml, .ref Mb, .ref Mh, .ref Mc, .int (iZ Mdr), .int (iZ Mrs), .ref Mz, .ref Mr, .ref Mq, .int (iZ Mit), .int (iZ Mmk)]))]) (wr := [(Ma, .inl (k 1, 5340, .inl Af)), (Mk, .inl (k 1, 6, .inl (F_6 0))), (Ml, .inl (k 1, 6, .inl (F_6 1))), (Mb, .inl (k 1, 6, .inl (F_6 2))), (Mh, .inl (k 1, 120, .inl (F_6 3)))]) hx hb hml hown hts hKK hP hD hS hA (m_gives l D k hm Ma Mn Ms My Mt Mp Mx Mo Mk Ml Mb Mh Mc Mz Mr Mq Mst Mtd Msz Mtk Mfr Men Mva Mfk Mfp Mfs Mse Mlt Mdp Mct Mdr Mrs Mit Mmk Mtp Mbt v3_20) ci_X12_gives qm_X12_85 ⟨Nat.le_of_ble_eq_true rfl, Nat.le_of_ble_eq_true rfl⟩ ⟨Nat.le_of_ble_eq_true rfl, Nat.le_of_ble_eq_true rfl⟩ [0] [1, 2, 3, 4, 5] rfl rfl rfl rfl rfl (by decide) 0 rfl rfl rfl hl.1 rfl (Nat.le_of_ble_eq_true rfl) dX12_kth_131 (fun u_28 H locs hφ hP hD hS => ?_)
                    obtain ⟨I_29, L_30, F_31, G_32⟩ := u_28
                    refine W.eq (g2 := F0 m 134 ls [.int (iZ v3_20)]) rfl ?_
                    exact EWi hx hb hr hlocks hS (fun i => [v3_20, 0].getD i 0, fun i => [0].getD i 0, fun i => [(F_6 0), (F_6 1), (F_6 2), (F_6 3)].getD i (fun _ => 0), fun i => [].getD i (fun _ => 0)) rfl (show rgI (F_6 3) 0 1000000 120 from p_9) (hP.sub [5, 0, 1, 2, 3, 4] rfl) (hD.sub [5, 0, 1, 2, 3, 4] rfl rfl) dX12_kth_134
              ·
                have c_25 := mt (zle (x := iZ (gz Af 4)) (y := iZ v6_49) rfl rfl ⟨by omega, by omega⟩ ⟨by omega, by omega⟩).mpr c_25
                refine lv_iload hx hb dX12_kth_60 (lv_at hl 1 rfl) ?_
                refine lv_aload_n hx hb dX12_kth_62 rfl (lv_at hl 4 rfl) ?_
                refine va_get (D := D) (ci := 12) (v := .ref Mh) (C := RX12) (T := TX12) (N := 36) hx hb hts iX12 hown hK hP 0 rfl rfl 27 (by decide) (hts _ qf_X12_56) (fun _ h => h) rfl dX12_kth_63 ?_
                refine lv_bipush (v := iZ 6) hx hb dX12_kth_66 (by decide) ?_
                refine lv_iload hx hb dX12_kth_68 (lv_at hl 0 rfl) ?_
                refine lv_imul hx hb dX12_kth_70 ?_
                refine lv_topi (fun x_34 ex_34 => ?_)
                obtain rfl : x_34 = iZ (6 * v6_49) := ex_34.trans (iZ_mul 6 v6_49)
                refine lv_iload_n hx hb dX12_kth_71 rfl (lv_at hl 5 rfl) ?_
                refine lv_iadd hx hb dX12_kth_72 ?_
                refine lv_topi (fun x_35 ex_35 => ?_)
                obtain rfl : x_35 = iZ ((6 * v6_49) + x1) := ex_35.trans (iZ_add (6 * v6_49) x1)
                refine va_iald hx hb hK hP 5 1 rfl rfl (zin (e := ((6 * v6_49) + x1)) (n := 120) ⟨by omega, by omega⟩ (by decide)) dX12_kth_73 ?_
                refine lv_topi (fun x_36 ex_36 => ?_)
                obtain rfl : x_36 = iZ (gz (F_6 3) ((6 * v6_49) + x1)) := ex_36.trans (gz_eq ⟨by omega, by omega⟩)
                have h_37 := p_9 ((6 * v6_49) + x1) (by omega) (by omega)
                refine lv_iload hx hb dX12_kth_74 (lv_at hl 2 rfl) ?_
                refine lv_icmp_lt (tgt := 102) hx hb dX12_kth_76 (by decide) (fun c_38 => ?_) (fun c_38 => ?_)
                ·
                  have c_38 := (zlt (x := iZ (gz (F_6 3) ((6 * v6_49) + x1))) (y := iZ (gz (F_6 3) ((6 * v3_20) + x1))) rfl rfl ⟨by omega, by omega⟩ ⟨by omega, by omega⟩).mp c_38
                  refine lv_iconst (v := iZ 1) hx hb dX12_kth_102 (by decide) ?_
                  refine lv_goto (tgt := 107) hx hb dX12_kth_103 (by decide) ?_
                  refine lv_iadd hx hb dX12_kth_107 ?_
                  refine lv_topi (fun x_39 ex_39 => ?_)
                  obtain rfl : x_39 = iZ (v5_49 + 1) := ex_39.trans (iZ_add v5_49 1)
                  refine lv_istore (lv' := [(5, .int (iZ (v5_49 + 1))), (6, .int (iZ v6_49)), (4, .int (iZ (gz (F_6 3) ((6 * v3_20) + x1)))), (3, .int (iZ v3_20)), (0, .ref hm), (1, .int (iZ x1)), (2, .int (iZ x2))]) hx hb dX12_kth_108 hl (by decide) rfl (fun ls hl => ?_)
                  refine lv_iinc (v := iZ (v6_49 + 1)) (lv' := [(6, .int (iZ (v6_49 + 1))), (5, .int (iZ (v5_49 + 1))), (4, .int (iZ (gz (F_6 3) ((6 * v3_20) + x1)))), (3, .int (iZ v3_20)), (0, .ref hm), (1, .int (iZ x1)), (2, .int (iZ x2))]) hx hb dX12_kth_110 hl (k := 1) rfl (iZ_add v6_49 1) (by decide) rfl (fun ls hl => ?_)
                  refine lv_goto (tgt := 49) hx hb dX12_kth_113 (by decide) ?_
                  exact ih49  (v5_49 + 1) (v6_49 + 1) _ _ _ (by omega) (show (0 ≤ (v6_49 + 1) ∧ (v6_49 + 1) ≤ (gz Af 4) + 1) from ⟨by omega, by omega⟩) (show 0 ≤ (v5_49 + 1) ∧ (v5_49 + 1) ≤ (v6_49 + 1) from (by omega)) (hP.sub [0, 1, 2, 3, 4, 5] rfl) (hD.sub [0, 1, 2, 3, 4, 5] rfl rfl) hS (lv_sub hl [0, 1, 2, 3, 4, 5, 6] rfl)
                ·
                  have c_38 := mt (zlt (x := iZ (gz (F_6 3) ((6 * v6_49) + x1))) (y := iZ (gz (F_6 3) ((6 * v3_20) + x1))) rfl rfl ⟨by omega, by omega⟩ ⟨by omega, by omega⟩).mpr c_38
                  refine lv_aload_n hx hb dX12_kth_79 rfl (lv_at hl 4 rfl) ?_
                  refine va_get (D := D) (ci := 12) (v := .ref Mh) (C := RX12) (T := TX12) (N := 36) hx hb hts iX12 hown hK hP 0 rfl rfl 27 (by decide) (hts _ qf_X12_56) (fun _ h => h) rfl dX12_kth_80 ?_
                  refine lv_bipush (v := iZ 6) hx hb dX12_kth_83 (by decide) ?_
                  refine lv_iload hx hb dX12_kth_85 (lv_at hl 0 rfl) ?_
                  refine lv_imul hx hb dX12_kth_87 ?_
                  refine lv_topi (fun x_40 ex_40 => ?_)
                  obtain rfl : x_40 = iZ (6 * v6_49) := ex_40.trans (iZ_mul 6 v6_49)
                  refine lv_iload_n hx hb dX12_kth_88 rfl (lv_at hl 5 rfl) ?_
                  refine lv_iadd hx hb dX12_kth_89 ?_
                  refine lv_topi (fun x_41 ex_41 => ?_)
                  obtain rfl : x_41 = iZ ((6 * v6_49) + x1) := ex_41.trans (iZ_add (6 * v6_49) x1)
                  refine va_iald hx hb hK hP 5 1 rfl rfl (zin (e := ((6 * v6_49) + x1)) (n := 120) ⟨by omega, by omega⟩ (by decide)) dX12_kth_90 ?_
                  refine lv_topi (fun x_42 ex_42 => ?_)
                  obtain rfl : x_42 = iZ (gz (F_6 3) ((6 * v6_49) + x1)) := ex_42.trans (gz_eq ⟨by omega, by omega⟩)
                  have h_43 := p_9 ((6 * v6_49) + x1) (by omega) (by omega)
                  refine lv_iload hx hb dX12_kth_91 (lv_at hl 2 rfl) ?_
                  refine lv_icmp_ne (tgt := 106) hx hb dX12_kth_93 (by decide) (fun c_44 => ?_) (fun c_44 => ?_)
                  ·
                    have c_44 := mt (zeq (x := iZ (gz (F_6 3) ((6 * v6_49) + x1))) (y := iZ (gz (F_6 3) ((6 * v3_20) + x1))) rfl rfl ⟨by omega, by omega⟩ ⟨by omega, by omega⟩).mpr c_44
                    refine lv_iconst (v := iZ 0) hx hb dX12_kth_106 (by decide) ?_
                    refine lv_iadd hx hb dX12_kth_107 ?_
                    refine lv_topi (fun x_45 ex_45 => ?_)
                    obtain rfl : x_45 = iZ (v5_49 + 0) := ex_45.trans (iZ_add v5_49 0)
                    refine lv_istore (lv' := [(5, .int (iZ (v5_49 + 0))), (6, .int (iZ v6_49)), (4, .int (iZ (gz (F_6 3) ((6 * v3_20) + x1)))), (3, .int (iZ v3_20)), (0, .ref hm), (1, .int (iZ x1)), (2, .int (iZ x2))]) hx hb dX12_kth_108 hl (by decide) rfl (fun ls hl => ?_)
                    refine lv_iinc (v := iZ (v6_49 + 1)) (lv' := [(6, .int (iZ (v6_49 + 1))), (5, .int (iZ (v5_49 + 0))), (4, .int (iZ (gz (F_6 3) ((6 * v3_20) + x1)))), (3, .int (iZ v3_20)), (0, .ref hm), (1, .int (iZ x1)), (2, .int (iZ x2))]) hx hb dX12_kth_110 hl (k := 1) rfl (iZ_add v6_49 1) (by decide) rfl (fun ls hl => ?_)
                    refine lv_goto (tgt := 49) hx hb dX12_kth_113 (by decide) ?_
                    exact ih49  (v5_49 + 0) (v6_49 + 1) _ _ _ (by omega) (show (0 ≤ (v6_49 + 1) ∧ (v6_49 + 1) ≤ (gz Af 4) + 1) from ⟨by omega, by omega⟩) (show 0 ≤ (v5_49 + 0) ∧ (v5_49 + 0) ≤ (v6_49 + 1) from (by omega)) (hP.sub [0, 1, 2, 3, 4, 5] rfl) (hD.sub [0, 1, 2, 3, 4, 5] rfl rfl) hS (lv_sub hl [0, 1, 2, 3, 4, 5, 6] rfl)
                  ·
                    have c_44 := (zeq (x := iZ (gz (F_6 3) ((6 * v6_49) + x1))) (y := iZ (gz (F_6 3) ((6 * v3_20) + x1))) rfl rfl ⟨by omega, by omega⟩ ⟨by omega, by omega⟩).mp c_44
                    refine lv_iload hx hb dX12_kth_96 (lv_at hl 0 rfl) ?_
                    refine lv_iload_n hx hb dX12_kth_98 rfl (lv_at hl 3 rfl) ?_
                    refine lv_icmp_ge (tgt := 106) hx hb dX12_kth_99 (by decide) (fun c_46 => ?_) (fun c_46 => ?_)
                    ·
                      have c_46 := (zle (x := iZ v3_20) (y := iZ v6_49) rfl rfl ⟨by omega, by omega⟩ ⟨by omega, by omega⟩).mp c_46
                      refine lv_iconst (v := iZ 0) hx hb dX12_kth_106 (by decide) ?_
                      refine lv_iadd hx hb dX12_kth_107 ?_
                      refine lv_topi (fun x_47 ex_47 => ?_)
                      obtain rfl : x_47 = iZ (v5_49 + 0) := ex_47.trans (iZ_add v5_49 0)
                      refine lv_istore (lv' := [(5, .int (iZ (v5_49 + 0))), (6, .int (iZ v6_49)), (4, .int (iZ (gz (F_6 3) ((6 * v3_20) + x1)))), (3, .int (iZ v3_20)), (0, .ref hm), (1, .int (iZ x1)), (2, .int (iZ x2))]) hx hb dX12_kth_108 hl (by decide) rfl (fun ls hl => ?_)
                      refine lv_iinc (v := iZ (v6_49 + 1)) (lv' := [(6, .int (iZ (v6_49 + 1))), (5, .int (iZ (v5_49 + 0))), (4, .int (iZ (gz (F_6 3) ((6 * v3_20) + x1)))), (3, .int (iZ v3_20)), (0, .ref hm), (1, .int (iZ x1)), (2, .int (iZ x2))]) hx hb dX12_kth_110 hl (k := 1) rfl (iZ_add v6_49 1) (by decide) rfl (fun ls hl => ?_)
                      refine lv_goto (tgt := 49) hx hb dX12_kth_113 (by decide) ?_
                      exact ih49  (v5_49 + 0) (v6_49 + 1) _ _ _ (by omega) (show (0 ≤ (v6_49 + 1) ∧ (v6_49 + 1) ≤ (gz Af 4) + 1) from ⟨by omega, by omega⟩) (show 0 ≤ (v5_49 + 0) ∧ (v5_49 + 0) ≤ (v6_49 + 1) from (by omega)) (hP.sub [0, 1, 2, 3, 4, 5] rfl) (hD.sub [0, 1, 2, 3, 4, 5] rfl rfl) hS (lv_sub hl [0, 1, 2, 3, 4, 5, 6] rfl)
                    ·
                      have c_46 := mt (zle (x := iZ v3_20) (y := iZ v6_49) rfl rfl ⟨by omega, by omega⟩ ⟨by omega, by omega⟩).mpr c_46
                      refine lv_iconst (v := iZ 1) hx hb dX12_kth_102 (by decide) ?_
                      refine lv_goto (tgt := 107) hx hb dX12_kth_103 (by decide) ?_
                      refine lv_iadd hx hb dX12_kth_107 ?_
                      refine lv_topi (fun x_48 ex_48 => ?_)
                      obtain rfl : x_48 = iZ (v5_49 + 1) := ex_48.trans (iZ_add v5_49 1)
                      refine lv_istore (lv' := [(5, .int (iZ (v5_49 + 1))), (6, .int (iZ v6_49)), (4, .int (iZ (gz (F_6 3) ((6 * v3_20) + x1)))), (3, .int (iZ v3_20)), (0, .ref hm), (1, .int (iZ x1)), (2, .int (iZ x2))]) hx hb dX12_kth_108 hl (by decide) rfl (fun ls hl => ?_)
                      refine lv_iinc (v := iZ (v6_49 + 1)) (lv' := [(6, .int (iZ (v6_49 + 1))), (5, .int (iZ (v5_49 + 1))), (4, .int (iZ (gz (F_6 3) ((6 * v3_20) + x1)))), (3, .int (iZ v3_20)), (0, .ref hm), (1, .int (iZ x1)), (2, .int (iZ x2))]) hx hb dX12_kth_110 hl (k := 1) rfl (iZ_add v6_49 1) (by decide) rfl (fun ls hl => ?_)
                      refine lv_goto (tgt := 49) hx hb dX12_kth_113 (by decide) ?_
                      exact ih49  (v5_49 + 1) (v6_49 + 1) _ _ _ (by omega) (show (0 ≤ (v6_49 + 1) ∧ (v6_49 + 1) ≤ (gz Af 4) + 1) from ⟨by omega, by omega⟩) (show 0 ≤ (v5_49 + 1) ∧ (v5_49 + 1) ≤ (v6_49 + 1) from (by omega)) (hP.sub [0, 1, 2, 3, 4, 5] rfl) (hD.sub [0, 1, 2, 3, 4, 5] rfl rfl) hS (lv_sub hl [0, 1, 2, 3, 4, 5, 6] rfl)
          exact HL49 24 0 0 _ _ _ (by omega) (show (0 ≤ 0 ∧ 0 ≤ (gz Af 4) + 1) from ⟨by omega, by omega⟩) (show 0 ≤ 0 ∧ 0 ≤ 0 from (by omega)) (hP.sub [0, 1, 2, 3, 4, 5] rfl) (hD.sub [0, 1, 2, 3, 4, 5] rfl rfl) hS (lv_sub hl [0, 1, 2, 3, 4, 5, 6] rfl)
    exact HL20 24 0 _ _ _ (by omega) (show (0 ≤ 0 ∧ 0 ≤ (gz Af 4) + 1) from ⟨by omega, by omega⟩) (hP.sub [0, 1, 2, 3, 4, 5] rfl) (hD.sub [0, 1, 2, 3, 4, 5] rfl rfl) hS (lv_sub hl [0, 1, 2, 3] rfl)
  ·
    subst qz_1
    refine lv_if_ne (tgt := 14) hx hb dX12_kth_5 (by decide) (fun c => absurd (by decide) c) (fun _ => ?_)
    refine lv_aload_n hx hb dX12_kth_8 rfl (lv_at hl 0 rfl) ?_
    refine lv_iconst (v := iZ 1) hx hb dX12_kth_9 (by decide) ?_
    refine CWV (As := [.int (iZ 1)]) (rest := []) (wc := [(hm, .inr (12, [.ref Ma, .ref Mn, .int (iZ Mst), .long Mtp, .long Mbt, .ref Ms, .ref My, .ref Mt, .ref Mp, .ref Mx, .int (iZ Mtd), .int (iZ Msz), .int (iZ Mtk), .int (iZ Mfr), .int (iZ Men), .int (iZ Mva), .int (iZ Mfk), .int (iZ Mfp), .int (iZ Mfs), .int (iZ Mse), .int (iZ Mlt), .ref Mo, .int (iZ Mdp), .int (iZ Mct), .ref Mk, .ref Ml, .ref Mb, .ref Mh, .ref Mc, .int (iZ Mdr), .int (iZ Mrs), .ref Mz, .ref Mr, .ref Mq, .int (iZ Mit), .int (iZ Mmk)]))]) (wr := [(Ma, .inl (k 1, 5340, .inl Af)), (Mk, .inl (k 1, 6, .inl Kf)), (Ml, .inl (k 1, 6, .inl Lf)), (Mb, .inl (k 1, 6, .inl Bf)), (Mh, .inl (k 1, 120, .inl Hf))]) hx hb hml hown hts hKK hP hD hS hA (m_refuse l D k hm Ma Mn Ms My Mt Mp Mx Mo Mk Ml Mb Mh Mc Mz Mr Mq Mst Mtd Msz Mtk Mfr Men Mva Mfk Mfp Mfs Mse Mlt Mdp Mct Mdr Mrs Mit Mmk Mtp Mbt 1) ci_X12_refuse qm_X12_81 ⟨Nat.le_of_ble_eq_true rfl, Nat.le_of_ble_eq_true rfl⟩ ⟨Nat.le_of_ble_eq_true rfl, Nat.le_of_ble_eq_true rfl⟩ [0] [1, 2, 3, 4, 5] rfl rfl rfl rfl rfl (by decide) 0 rfl rfl rfl hl.1 rfl (Nat.le_of_ble_eq_true rfl) dX12_kth_10 (fun u_50 H locs hφ hP hD hS => ?_)
    obtain ⟨I_51, L_52, F_53, G_54⟩ := u_50
    refine W.eq (g2 := F0 m 13 ls [.int (iZ (-1))]) rfl ?_
    exact EWi hx hb hr hlocks hS (fun i => [(-1), 1].getD i 0, fun i => [0].getD i 0, fun i => [Kf, Lf, Bf, Hf].getD i (fun _ => 0), fun i => [].getD i (fun _ => 0)) rfl (show rgI Hf 0 1000000 120 from rgH) (hP.sub [5, 0, 1, 2, 3, 4] rfl) (hD.sub [5, 0, 1, 2, 3, 4] rfl rfl) dX12_kth_13
set_option maxHeartbeats 4000000 in
set_option maxRecDepth 100000 in
theorem q_joint (l : Launch) (D : va_G) (k : Nat → ClassId) (hm : Nat) (Ma : Nat) (Mn : Nat) (Ms : Nat) (My : Nat) (Mt : Nat) (Mp : Nat) (Mx : Nat) (Mo : Nat) (Mk : Nat) (Ml : Nat) (Mb : Nat) (Mh : Nat) (Mc : Nat) (Mz : Nat) (Mr : Nat) (Mq : Nat) (Mst : Int) (Mtd : Int) (Msz : Int) (Mtk : Int) (Mfr : Int) (Men : Int) (Mva : Int) (Mfk : Int) (Mfp : Int) (Mfs : Int) (Mse : Int) (Mlt : Int) (Mdp : Int) (Mct : Int) (Mdr : Int) (Mrs : Int) (Mit : Int) (Mmk : Int) (Mtp : Int64) (Mbt : Int64) (Af : Nat → Int32) (Kf : Nat → Int32) (Lf : Nat → Int32) (Bf : Nat → Int32) (Hf : Nat → Int32) (x1 : Int) (x2 : Int) (hM : M0 Af) (rgH : rgI Hf 0 1000000 120) (h9x1 : -2147483648 ≤ x1 ∧ x1 < 2147483648) (h9x2 : -2147483648 ≤ x2 ∧ x2 < 2147483648) : WD (σ := ((Nat → Int) × (Nat → Int64) × (Nat → Nat → Int32) × (Nat → Nat → Int64))) l yX12_joint cX12_joint 5 (some .int) 7 0 0 D k [.ref hm, .int (iZ x1), .int (iZ x2)] [(hm, .inr (12, [.ref Ma, .ref Mn, .int (iZ Mst), .long Mtp, .long Mbt, .ref Ms, .ref My, .ref Mt, .ref Mp, .ref Mx, .int (iZ Mtd), .int (iZ Msz), .int (iZ Mtk), .int (iZ Mfr), .int (iZ Men), .int (iZ Mva), .int (iZ Mfk), .int (iZ Mfp), .int (iZ Mfs), .int (iZ Mse), .int (iZ Mlt), .ref Mo, .int (iZ Mdp), .int (iZ Mct), .ref Mk, .ref Ml, .ref Mb, .ref Mh, .ref Mc, .int (iZ Mdr), .int (iZ Mrs), .ref Mz, .ref Mr, .ref Mq, .int (iZ Mit), .int (iZ Mmk)])), (Ma, .inl (k 1, 5340, .inl Af)), (Mk, .inl (k 1, 6, .inl Kf)), (Ml, .inl (k 1, 6, .inl Lf)), (Mb, .inl (k 1, 6, .inl Bf)), (Mh, .inl (k 1, 120, .inl Hf))] (fun u => some (.int (iZ (u.1 0)))) (fun u => rgI (u.2.2.1 3) 0 1000000 120) (fun u => [(hm, .inr (12, [.ref Ma, .ref Mn, .int (iZ (u.1 1)), .long Mtp, .long Mbt, .ref Ms, .ref My, .ref Mt, .ref Mp, .ref Mx, .int (iZ Mtd), .int (iZ Msz), .int (iZ Mtk), .int (iZ Mfr), .int (iZ Men), .int (iZ Mva), .int (iZ Mfk), .int (iZ Mfp), .int (iZ Mfs), .int (iZ Mse), .int (iZ Mlt), .ref Mo, .int (iZ Mdp), .int (iZ Mct), .ref Mk, .ref Ml, .ref Mb, .ref Mh, .ref Mc, .int (iZ Mdr), .int (iZ Mrs), .ref Mz, .ref Mr, .ref Mq, .int (iZ Mit), .int (iZ Mmk)])), (Ma, .inl (k 1, 5340, .inl Af)), (Mk, .inl (k 1, 6, .inl (u.2.2.1 0))), (Ml, .inl (k 1, 6, .inl (u.2.2.1 1))), (Mb, .inl (k 1, 6, .inl (u.2.2.1 2))), (Mh, .inl (k 1, 120, .inl (u.2.2.1 3)))]) := by
  refine MW (by decide) (Nat.le_of_ble_eq_true rfl) (fun p e s m below meth c ls A hx hb hml hr hlocks hin hts hown hKK hP hD hS hA hl => ?_)
  have hK := hKK.1
  have hl : lv_has ls 5 [(0, .ref hm), (1, .int (iZ x1)), (2, .int (iZ x2))] := hl
  obtain ⟨m0, m1, m3, m4, m5, mF, mO, mS⟩ := id hM
  refine lv_aload_n hx hb dX12_joint_0 rfl (lv_at hl 0 rfl) ?_
  refine lv_iload_n hx hb dX12_joint_1 rfl (lv_at hl 1 rfl) ?_
  refine CPV (As := [.int (iZ x1)]) (rest := []) hx hb hml hown hts hKK (hP.sub (ws' := [(hm, .inr (12, [.ref Ma, .ref Mn, .int (iZ Mst), .long Mtp, .long Mbt, .ref Ms, .ref My, .ref Mt, .ref Mp, .ref Mx, .int (iZ Mtd), .int (iZ Msz), .int (iZ Mtk), .int (iZ Mfr), .int (iZ Men), .int (iZ Mva), .int (iZ Mfk), .int (iZ Mfp), .int (iZ Mfs), .int (iZ Mse), .int (iZ Mlt), .ref Mo, .int (iZ Mdp), .int (iZ Mct), .ref Mk, .ref Ml, .ref Mb, .ref Mh, .ref Mc, .int (iZ Mdr), .int (iZ Mrs), .ref Mz, .ref Mr, .ref Mq, .int (iZ Mit), .int (iZ Mmk)])), (Ma, .inl (k 1, 5340, .inl Af))]) [0, 1] rfl) (m_isOrder l D k ([.ref Ma, .ref Mn, .int (iZ Mst), .long Mtp, .long Mbt, .ref Ms, .ref My, .ref Mt, .ref Mp, .ref Mx, .int (iZ Mtd), .int (iZ Msz), .int (iZ Mtk), .int (iZ Mfr), .int (iZ Men), .int (iZ Mva), .int (iZ Mfk), .int (iZ Mfp), .int (iZ Mfs), .int (iZ Mse), .int (iZ Mlt), .ref Mo, .int (iZ Mdp), .int (iZ Mct), .ref Mk, .ref Ml, .ref Mb, .ref Mh, .ref Mc, .int (iZ Mdr), .int (iZ Mrs), .ref Mz, .ref Mr, .ref Mq, .int (iZ Mit), .int (iZ Mmk)]) hm Ma Af x1 rfl hM ⟨by omega, by omega⟩) ci_X12_isOrder qm_X12_324 ⟨Nat.le_of_ble_eq_true rfl, Nat.le_of_ble_eq_true rfl⟩ ⟨Nat.le_of_ble_eq_true rfl, Nat.le_of_ble_eq_true rfl⟩ 0 rfl rfl rfl hl.1 rfl (Nat.le_of_ble_eq_true rfl) dX12_joint_2 (fun z_1 hz_1 => ?_)
  rcases hz_1 with ⟨qz_1, hz_1⟩ | ⟨qz_1, hz_1⟩
  ·
    subst qz_1
    refine lv_if_eq (tgt := 16) hx hb dX12_joint_5 (by decide) (fun c => absurd c (by decide)) (fun _ => ?_)
    refine lv_aload_n hx hb dX12_joint_8 rfl (lv_at hl 0 rfl) ?_
    refine lv_iload_n hx hb dX12_joint_9 rfl (lv_at hl 2 rfl) ?_
    refine CPV (As := [.int (iZ x2)]) (rest := []) hx hb hml hown hts hKK (hP.sub (ws' := [(hm, .inr (12, [.ref Ma, .ref Mn, .int (iZ Mst), .long Mtp, .long Mbt, .ref Ms, .ref My, .ref Mt, .ref Mp, .ref Mx, .int (iZ Mtd), .int (iZ Msz), .int (iZ Mtk), .int (iZ Mfr), .int (iZ Men), .int (iZ Mva), .int (iZ Mfk), .int (iZ Mfp), .int (iZ Mfs), .int (iZ Mse), .int (iZ Mlt), .ref Mo, .int (iZ Mdp), .int (iZ Mct), .ref Mk, .ref Ml, .ref Mb, .ref Mh, .ref Mc, .int (iZ Mdr), .int (iZ Mrs), .ref Mz, .ref Mr, .ref Mq, .int (iZ Mit), .int (iZ Mmk)])), (Ma, .inl (k 1, 5340, .inl Af))]) [0, 1] rfl) (m_isSetOf l D k ([.ref Ma, .ref Mn, .int (iZ Mst), .long Mtp, .long Mbt, .ref Ms, .ref My, .ref Mt, .ref Mp, .ref Mx, .int (iZ Mtd), .int (iZ Msz), .int (iZ Mtk), .int (iZ Mfr), .int (iZ Men), .int (iZ Mva), .int (iZ Mfk), .int (iZ Mfp), .int (iZ Mfs), .int (iZ Mse), .int (iZ Mlt), .ref Mo, .int (iZ Mdp), .int (iZ Mct), .ref Mk, .ref Ml, .ref Mb, .ref Mh, .ref Mc, .int (iZ Mdr), .int (iZ Mrs), .ref Mz, .ref Mr, .ref Mq, .int (iZ Mit), .int (iZ Mmk)]) hm Ma Af x2 rfl hM ⟨by omega, by omega⟩) ci_X12_isSetOf qm_X12_348 ⟨Nat.le_of_ble_eq_true rfl, Nat.le_of_ble_eq_true rfl⟩ ⟨Nat.le_of_ble_eq_true rfl, Nat.le_of_ble_eq_true rfl⟩ 0 rfl rfl rfl hl.1 rfl (Nat.le_of_ble_eq_true rfl) dX12_joint_10 (fun z_3 hz_3 => ?_)
    rcases hz_3 with ⟨qz_3, hz_3⟩ | ⟨qz_3, hz_3⟩
    ·
      subst qz_3
      refine lv_if_ne (tgt := 22) hx hb dX12_joint_13 (by decide) (fun _ => ?_) (fun c => absurd c (by decide))
      refine lv_aload_n hx hb dX12_joint_22 rfl (lv_at hl 0 rfl) ?_
      refine lv_iload_n hx hb dX12_joint_23 rfl (lv_at hl 1 rfl) ?_
      refine CWV (As := [.int (iZ x1)]) (rest := []) (wc := [(hm, .inr (12, [.ref Ma, .ref Mn, .int (iZ Mst), .long Mtp, .long Mbt, .ref Ms, .ref My, .ref Mt, .ref Mp, .ref Mx, .int (iZ Mtd), .int (iZ Msz), .int (iZ Mtk), .int (iZ Mfr), .int (iZ Men), .int (iZ Mva), .int (iZ Mfk), .int (iZ Mfp), .int (iZ Mfs), .int (iZ Mse), .int (iZ Mlt), .ref Mo, .int (iZ Mdp), .int (iZ Mct), .ref Mk, .ref Ml, .ref Mb, .ref Mh, .ref Mc, .int (iZ Mdr), .int (iZ Mrs), .ref Mz, .ref Mr, .ref Mq, .int (iZ Mit), .int (iZ Mmk)])), (Ma, .inl (k 1, 5340, .inl Af)), (Mk, .inl (k 1, 6, .inl Kf)), (Ml, .inl (k 1, 6, .inl Lf)), (Mb, .inl (k 1, 6, .inl Bf)), (Mh, .inl (k 1, 120, .inl Hf))]) (wr := []) hx hb hml hown hts hKK hP hD hS hA (m_laysOrder l D k hm Ma Mn Ms My Mt Mp Mx Mo Mk Ml Mb Mh Mc Mz Mr Mq Mst Mtd Msz Mtk Mfr Men Mva Mfk Mfp Mfs Mse Mlt Mdp Mct Mdr Mrs Mit Mmk Mtp Mbt Af Kf Lf Bf Hf x1 hM ⟨by omega, by omega⟩ rgH) ci_X12_laysOrder qm_X12_318 ⟨Nat.le_of_ble_eq_true rfl, Nat.le_of_ble_eq_true rfl⟩ ⟨Nat.le_of_ble_eq_true rfl, Nat.le_of_ble_eq_true rfl⟩ [0, 1, 2, 3, 4, 5] [] rfl rfl rfl rfl rfl (by decide) 0 rfl rfl rfl hl.1 rfl (Nat.le_of_ble_eq_true rfl) dX12_joint_24 (fun u_5 H locs hφ hP hD hS => ?_)
      obtain ⟨I_6, L_7, F_8, G_9⟩ := u_5
      obtain ⟨p_11, p_12, p_13⟩ : (KR (F_8 0) 6) ∧ (rgI (F_8 1) (-1) 5 6) ∧ (rgI (F_8 3) 0 1000000 120) := hφ
      refine W.eq (g2 := F0 m 27 ls []) rfl ?_
      refine lv_iconst (v := iZ 0) hx hb dX12_joint_27 (by decide) ?_
      refine lv_istore_n (lv' := [(3, .int (iZ 0)), (0, .ref hm), (1, .int (iZ x1)), (2, .int (iZ x2))]) hx hb dX12_joint_28 rfl hl (by decide) rfl (fun ls hl => ?_)
      refine lv_iconst (v := iZ 0) hx hb dX12_joint_29 (by decide) ?_
      refine lv_istore (lv' := [(4, .int (iZ 0)), (3, .int (iZ 0)), (0, .ref hm), (1, .int (iZ x1)), (2, .int (iZ x2))]) hx hb dX12_joint_30 hl (by decide) rfl (fun ls hl => ?_)
      have HL32 : ∀ (fu : Nat) (v3_32 : Int) (v4_32 : Int) (H : Heap) (locs : List Loc) (ls : Array Slot), ((gz Af 0) + 2 - v4_32) < (fu : Int) → ((0 ≤ v4_32 ∧ v4_32 ≤ (gz Af 0) + 1)) → (0 ≤ v3_32 ∧ v3_32 ≤ 1000000) → va_P D vwCl [(hm, .inr (12, [.ref Ma, .ref Mn, .int (iZ Mst), .long Mtp, .long Mbt, .ref Ms, .ref My, .ref Mt, .ref Mp, .ref Mx, .int (iZ Mtd), .int (iZ Msz), .int (iZ Mtk), .int (iZ Mfr), .int (iZ Men), .int (iZ Mva), .int (iZ Mfk), .int (iZ Mfp), .int (iZ Mfs), .int (iZ Mse), .int (iZ Mlt), .ref Mo, .int (iZ Mdp), .int (iZ Mct), .ref Mk, .ref Ml, .ref Mb, .ref Mh, .ref Mc, .int (iZ Mdr), .int (iZ Mrs), .ref Mz, .ref Mr, .ref Mq, .int (iZ Mit), .int (iZ Mmk)])), (Ma, .inl (k 1, 5340, .inl Af)), (Mk, .inl (k 1, 6, .inl (F_8 0))), (Ml, .inl (k 1, 6, .inl (F_8 1))), (Mb, .inl (k 1, 6, .inl (F_8 2))), (Mh, .inl (k 1, 120, .inl (F_8 3)))] H → va_D A [(hm, .inr (12, [.ref Ma, .ref Mn, .int (iZ Mst), .long Mtp, .long Mbt, .ref Ms, .ref My, .ref Mt, .ref Mp, .ref Mx, .int (iZ Mtd), .int (iZ Msz), .int (iZ Mtk), .int (iZ Mfr), .int (iZ Men), .int (iZ Mva), .int (iZ Mfk), .int (iZ Mfp), .int (iZ Mfs), .int (iZ Mse), .int (iZ Mlt), .ref Mo, .int (iZ Mdp), .int (iZ Mct), .ref Mk, .ref Ml, .ref Mb, .ref Mh, .ref Mc, .int (iZ Mdr), .int (iZ Mrs), .ref Mz, .ref Mr, .ref Mq, .int (iZ Mit), .int (iZ Mmk)])), (Ma, .inl (k 1, 5340, .inl Af)), (Mk, .inl (k 1, 6, .inl (F_8 0))), (Ml, .inl (k 1, 6, .inl (F_8 1))), (Mb, .inl (k 1, 6, .inl (F_8 2))), (Mh, .inl (k 1, 120, .inl (F_8 3)))] → va_S A s.heap H locs → lv_has ls 5 [(4, .int (iZ v4_32)), (3, .int (iZ v3_32)), (0, .ref hm), (1, .int (iZ x1)), (2, .int (iZ x2))] → W p l e (rj 7 0 0) s m [.ref hm, .int (iZ x1), .int (iZ x2)].toArray below meth c H locs 0 0 (MQ below (QW (σ := ((Nat → Int) × (Nat → Int64) × (Nat → Nat → Int32) × (Nat → Nat → Int64))) (fun u => some (.int (iZ (u.1 0)))) (fun u => rgI (u.2.2.1 3) 0 1000000 120) (fun u => [(hm, .inr (12, [.ref Ma, .ref Mn, .int (iZ (u.1 1)), .long Mtp, .long Mbt, .ref Ms, .ref My, .ref Mt, .ref Mp, .ref Mx, .int (iZ Mtd), .int (iZ Msz), .int (iZ Mtk), .int (iZ Mfr), .int (iZ Men), .int (iZ Mva), .int (iZ Mfk), .int (iZ Mfp), .int (iZ Mfs), .int (iZ Mse), .int (iZ Mlt), .ref Mo, .int (iZ Mdp), .int (iZ Mct), .ref Mk, .ref Ml, .ref Mb, .ref Mh, .ref Mc, .int (iZ Mdr), .int (iZ Mrs), .ref Mz, .ref Mr, .ref Mq, .int (iZ Mit), .int (iZ Mmk)])), (Ma, .inl (k 1, 5340, .inl Af)), (Mk, .inl (k 1, 6, .inl (u.2.2.1 0))), (Ml, .inl (k 1, 6, .inl (u.2.2.1 1))), (Mb, .inl (k 1, 6, .inl (u.2.2.1 2))), (Mh, .inl (k 1, 120, .inl (u.2.2.1 3)))]) D A) [.ref hm, .int (iZ x1), .int (iZ x2)].toArray s 0 0 A) (F0 m 32 ls []) := by
        intro fu
        induction fu with
        | zero => intro v3_32 v4_32 H locs ls hμ32 hi32 hf0_32 hP hD hS hl; exact absurd hμ32 (by omega)
        | succ fu ih32 =>
          intro v3_32 v4_32 H locs ls hμ32 hi32 hf0_32 hP hD hS hl
          refine lv_iload hx hb dX12_joint_32 (lv_at hl 0 rfl) ?_
          refine lv_aload_n hx hb dX12_joint_34 rfl (lv_at hl 2 rfl) ?_
          refine va_get (D := D) (ci := 12) (v := .ref Ma) (C := RX12) (T := TX12) (N := 36) hx hb hts iX12 hown hK hP 0 rfl rfl 0 (by decide) (hts _ qf_X12_7) (fun _ h => h) rfl dX12_joint_35 ?_
          refine lv_iconst (v := iZ 0) hx hb dX12_joint_38 (by decide) ?_
          refine va_iald hx hb hK hP 1 1 rfl rfl (zin (e := 0) (n := 5340) ⟨by omega, by omega⟩ (by decide)) dX12_joint_39 ?_
          refine lv_topi (fun x_14 ex_14 => ?_)
          obtain rfl : x_14 = iZ (gz Af 0) := ex_14.trans (gz_eq ⟨by omega, by omega⟩)
          have h_15 := gz_rg Af 0
          refine lv_icmp_ge (tgt := 71) hx hb dX12_joint_40 (by decide) (fun c_16 => ?_) (fun c_16 => ?_)
          ·
            have c_16 := (zle (x := iZ (gz Af 0)) (y := iZ v4_32) rfl rfl ⟨by omega, by omega⟩ ⟨by omega, by omega⟩).mp c_16
            refine lv_aload_n hx hb dX12_joint_71 rfl (lv_at hl 2 rfl) ?_
            refine lv_iload_n hx hb dX12_joint_72 rfl (lv_at hl 1 rfl) ?_
            refine CWV (As := [.int (iZ v3_32)]) (rest := []) (wc := [(hm, .inr (12, [.ref Ma, .ref Mn, .int (iZ Mst), .long Mtp, .long Mbt, .ref Ms, .ref My, .ref Mt, .ref Mp, .ref Mx, .int (iZ Mtd), .int (iZ Msz), .int (iZ Mtk), .int (iZ Mfr), .int (iZ Men), .int (iZ Mva), .int (iZ Mfk), .int (iZ Mfp), .int (iZ Mfs), .int (iZ Mse), .int (iZ Mlt), .ref Mo, .int (iZ Mdp), .int (iZ Mct), .ref Mk, .ref Ml, .ref Mb, .ref Mh, .ref Mc, .int (iZ Mdr), .int (iZ Mrs), .ref Mz, .ref Mr, .ref Mq, .int (iZ Mit), .int (iZ Mmk)]))]) (wr := [(Ma, .inl (k 1, 5340, .inl Af)), (Mk, .inl (k 1, 6, .inl (F_8 0))), (Ml, .inl (k 1, 6, .inl (F_8 1))), (Mb, .inl (k 1, 6, .inl (F_8 2))), (Mh, .inl (k 1, 120, .inl (F_8 3)))]) hx hb hml hown hts hKK hP hD hS hA (m_orNever l D k hm Ma Mn Ms My Mt Mp Mx Mo Mk Ml Mb Mh Mc Mz Mr Mq Mst Mtd Msz Mtk Mfr Men Mva Mfk Mfp Mfs Mse Mlt Mdp Mct Mdr Mrs Mit Mmk Mtp Mbt v3_32 ⟨by omega, by omega⟩) ci_X12_orNever qm_X12_284 ⟨Nat.le_of_ble_eq_true rfl, Nat.le_of_ble_eq_true rfl⟩ ⟨Nat.le_of_ble_eq_true rfl, Nat.le_of_ble_eq_true rfl⟩ [0] [1, 2, 3, 4, 5] rfl rfl rfl rfl rfl (by decide) 0 rfl rfl rfl hl.1 rfl (Nat.le_of_ble_eq_true rfl) dX12_joint_73 (fun u_17 H locs hφ hP hD hS => ?_)
            obtain ⟨I_18, L_19, F_20, G_21⟩ := u_17
            have p_23 : ((v3_32 : Int) ≥ 1000000 ∧ (I_18 0) = -1 ∧ (I_18 1) = 6) ∨ ((v3_32 : Int) < 1000000 ∧ (I_18 0) = v3_32 ∧ (I_18 1) = 0) := hφ
            refine W.eq (g2 := F0 m 76 ls [.int (iZ (I_18 0))]) rfl ?_
            exact EWi hx hb hr hlocks hS (fun i => [(I_18 0), (I_18 1)].getD i 0, fun i => [0].getD i 0, fun i => [(F_8 0), (F_8 1), (F_8 2), (F_8 3)].getD i (fun _ => 0), fun i => [].getD i (fun _ => 0)) rfl (show rgI (F_8 3) 0 1000000 120 from p_13) (hP.sub [5, 0, 1, 2, 3, 4] rfl) (hD.sub [5, 0, 1, 2, 3, 4] rfl rfl) dX12_joint_76
          ·
            have c_16 := mt (zle (x := iZ (gz Af 0)) (y := iZ v4_32) rfl rfl ⟨by omega, by omega⟩ ⟨by omega, by omega⟩).mpr c_16
            refine lv_iload_n hx hb dX12_joint_43 rfl (lv_at hl 4 rfl) ?_
            refine lv_iload hx hb dX12_joint_44 (lv_at hl 0 rfl) ?_
            refine lv_ishr hx hb dX12_joint_46 ?_
            refine lv_topi (fun x_25 ex_25 => ?_)
            obtain ⟨z_24, hz_24, hz_24a, hz_24b⟩ := i32_z x_25
            subst hz_24
            refine lv_iconst (v := iZ 1) hx hb dX12_joint_47 (by decide) ?_
            refine lv_iand hx hb dX12_joint_48 ?_
            refine lv_topi (fun x_27 ex_27 => ?_)
            obtain ⟨z_26, hz_26, hz_26a, hz_26b⟩ := i32_z x_27
            subst hz_26
            refine lv_iconst (v := iZ 1) hx hb dX12_joint_49 (by decide) ?_
            refine lv_icmp_ne (tgt := 65) hx hb dX12_joint_50 (by decide) (fun c_28 => ?_) (fun c_28 => ?_)
            ·
              have c_28 := mt (zeq (x := iZ z_26) (y := iZ 1) rfl rfl ⟨by omega, by omega⟩ ⟨by omega, by omega⟩).mpr c_28
              refine lv_iinc (v := iZ (v4_32 + 1)) (lv' := [(4, .int (iZ (v4_32 + 1))), (3, .int (iZ v3_32)), (0, .ref hm), (1, .int (iZ x1)), (2, .int (iZ x2))]) hx hb dX12_joint_65 hl (k := 0) rfl (iZ_add v4_32 1) (by decide) rfl (fun ls hl => ?_)
              refine lv_goto (tgt := 32) hx hb dX12_joint_68 (by decide) ?_
              exact ih32  v3_32 (v4_32 + 1) _ _ _ (by omega) (show (0 ≤ (v4_32 + 1) ∧ (v4_32 + 1) ≤ (gz Af 0) + 1) from ⟨by omega, by omega⟩) (show 0 ≤ v3_32 ∧ v3_32 ≤ 1000000 from (by omega)) (hP.sub [0, 1, 2, 3, 4, 5] rfl) (hD.sub [0, 1, 2, 3, 4, 5] rfl rfl) hS (lv_sub hl [0, 1, 2, 3, 4] rfl)
            ·
              have c_28 := (zeq (x := iZ z_26) (y := iZ 1) rfl rfl ⟨by omega, by omega⟩ ⟨by omega, by omega⟩).mp c_28
              refine lv_iload_n hx hb dX12_joint_53 rfl (lv_at hl 1 rfl) ?_
              refine lv_aload_n hx hb dX12_joint_54 rfl (lv_at hl 2 rfl) ?_
              refine va_get (D := D) (ci := 12) (v := .ref Mk) (C := RX12) (T := TX12) (N := 36) hx hb hts iX12 hown hK hP 0 rfl rfl 24 (by decide) (hts _ qf_X12_47) (fun _ h => h) rfl dX12_joint_55 ?_
              refine lv_iload hx hb dX12_joint_58 (lv_at hl 0 rfl) ?_
              refine va_iald hx hb hK hP 2 1 rfl rfl (zin (e := v4_32) (n := 6) ⟨by omega, by omega⟩ (by decide)) dX12_joint_60 ?_
              refine lv_topi (fun x_29 ex_29 => ?_)
              obtain rfl : x_29 = iZ (gz (F_8 0) v4_32) := ex_29.trans (gz_eq ⟨by omega, by omega⟩)
              have h_30 := p_11 v4_32 (by omega) (by omega)
              refine va_mmax (rest := []) hx hb (by rw [hml]; exact hl.1.symm) (own := RX12) hown (hts _ qm_X12_255) (hts _ qt_yJ9_max_7cf53) (hts _ qz_J9) (hts _ qc_J9_max_7cf53) (Nat.le_of_ble_eq_true rfl) (Nat.le_of_ble_eq_true rfl) (Nat.le_of_ble_eq_true rfl) (Nat.le_of_ble_eq_true rfl) dX12_joint_61 ?_
              refine lv_topi (fun x_31 ex_31 => ?_)
              obtain rfl : x_31 = iZ (max v3_32 (gz (F_8 0) v4_32)) := ex_31.trans (zmax ⟨by omega, by omega⟩ ⟨by omega, by omega⟩)
              refine lv_istore_n (lv' := [(3, .int (iZ (max v3_32 (gz (F_8 0) v4_32)))), (4, .int (iZ v4_32)), (0, .ref hm), (1, .int (iZ x1)), (2, .int (iZ x2))]) hx hb dX12_joint_64 rfl hl (by decide) rfl (fun ls hl => ?_)
              refine lv_iinc (v := iZ (v4_32 + 1)) (lv' := [(4, .int (iZ (v4_32 + 1))), (3, .int (iZ (max v3_32 (gz (F_8 0) v4_32)))), (0, .ref hm), (1, .int (iZ x1)), (2, .int (iZ x2))]) hx hb dX12_joint_65 hl (k := 1) rfl (iZ_add v4_32 1) (by decide) rfl (fun ls hl => ?_)
              refine lv_goto (tgt := 32) hx hb dX12_joint_68 (by decide) ?_
              exact ih32  (max v3_32 (gz (F_8 0) v4_32)) (v4_32 + 1) _ _ _ (by omega) (show (0 ≤ (v4_32 + 1) ∧ (v4_32 + 1) ≤ (gz Af 0) + 1) from ⟨by omega, by omega⟩) (show 0 ≤ (max v3_32 (gz (F_8 0) v4_32)) ∧ (max v3_32 (gz (F_8 0) v4_32)) ≤ 1000000 from (by omega)) (hP.sub [0, 1, 2, 3, 4, 5] rfl) (hD.sub [0, 1, 2, 3, 4, 5] rfl rfl) hS (lv_sub hl [0, 1, 2, 3, 4] rfl)
      exact HL32 10 0 0 _ _ _ (by omega) (show (0 ≤ 0 ∧ 0 ≤ (gz Af 0) + 1) from ⟨by omega, by omega⟩) (show 0 ≤ 0 ∧ 0 ≤ 1000000 from (by omega)) (hP.sub [0, 1, 2, 3, 4, 5] rfl) (hD.sub [0, 1, 2, 3, 4, 5] rfl rfl) hS (lv_sub hl [0, 1, 2, 3, 4] rfl)
    ·
      subst qz_3
      refine lv_if_ne (tgt := 22) hx hb dX12_joint_13 (by decide) (fun c => absurd (by decide) c) (fun _ => ?_)
      refine lv_aload_n hx hb dX12_joint_16 rfl (lv_at hl 0 rfl) ?_
      refine lv_iconst (v := iZ 1) hx hb dX12_joint_17 (by decide) ?_
      refine CWV (As := [.int (iZ 1)]) (rest := []) (wc := [(hm, .inr (12, [.ref Ma, .ref Mn, .int (iZ Mst), .long Mtp, .long Mbt, .ref Ms, .ref My, .ref Mt, .ref Mp, .ref Mx, .int (iZ Mtd), .int (iZ Msz), .int (iZ Mtk), .int (iZ Mfr), .int (iZ Men), .int (iZ Mva), .int (iZ Mfk), .int (iZ Mfp), .int (iZ Mfs), .int (iZ Mse), .int (iZ Mlt), .ref Mo, .int (iZ Mdp), .int (iZ Mct), .ref Mk, .ref Ml, .ref Mb, .ref Mh, .ref Mc, .int (iZ Mdr), .int (iZ Mrs), .ref Mz, .ref Mr, .ref Mq, .int (iZ Mit), .int (iZ Mmk)]))]) (wr := [(Ma, .inl (k 1, 5340, .inl Af)), (Mk, .inl (k 1, 6, .inl Kf)), (Ml, .inl (k 1, 6, .inl Lf)), (Mb, .inl (k 1, 6, .inl Bf)), (Mh, .inl (k 1, 120, .inl Hf))]) hx hb hml hown hts hKK hP hD hS hA (m_refuse l D k hm Ma Mn Ms My Mt Mp Mx Mo Mk Ml Mb Mh Mc Mz Mr Mq Mst Mtd Msz Mtk Mfr Men Mva Mfk Mfp Mfs Mse Mlt Mdp Mct Mdr Mrs Mit Mmk Mtp Mbt 1) ci_X12_refuse qm_X12_81 ⟨Nat.le_of_ble_eq_true rfl, Nat.le_of_ble_eq_true rfl⟩ ⟨Nat.le_of_ble_eq_true rfl, Nat.le_of_ble_eq_true rfl⟩ [0] [1, 2, 3, 4, 5] rfl rfl rfl rfl rfl (by decide) 0 rfl rfl rfl hl.1 rfl (Nat.le_of_ble_eq_true rfl) dX12_joint_18 (fun u_33 H locs hφ hP hD hS => ?_)
      obtain ⟨I_34, L_35, F_36, G_37⟩ := u_33
      refine W.eq (g2 := F0 m 21 ls [.int (iZ (-1))]) rfl ?_
      exact EWi hx hb hr hlocks hS (fun i => [(-1), 1].getD i 0, fun i => [0].getD i 0, fun i => [Kf, Lf, Bf, Hf].getD i (fun _ => 0), fun i => [].getD i (fun _ => 0)) rfl (show rgI Hf 0 1000000 120 from rgH) (hP.sub [5, 0, 1, 2, 3, 4] rfl) (hD.sub [5, 0, 1, 2, 3, 4] rfl rfl) dX12_joint_21
  ·
    subst qz_1
    refine lv_if_eq (tgt := 16) hx hb dX12_joint_5 (by decide) (fun _ => ?_) (fun c => absurd (by decide) c)
    refine lv_aload_n hx hb dX12_joint_16 rfl (lv_at hl 0 rfl) ?_
    refine lv_iconst (v := iZ 1) hx hb dX12_joint_17 (by decide) ?_
    refine CWV (As := [.int (iZ 1)]) (rest := []) (wc := [(hm, .inr (12, [.ref Ma, .ref Mn, .int (iZ Mst), .long Mtp, .long Mbt, .ref Ms, .ref My, .ref Mt, .ref Mp, .ref Mx, .int (iZ Mtd), .int (iZ Msz), .int (iZ Mtk), .int (iZ Mfr), .int (iZ Men), .int (iZ Mva), .int (iZ Mfk), .int (iZ Mfp), .int (iZ Mfs), .int (iZ Mse), .int (iZ Mlt), .ref Mo, .int (iZ Mdp), .int (iZ Mct), .ref Mk, .ref Ml, .ref Mb, .ref Mh, .ref Mc, .int (iZ Mdr), .int (iZ Mrs), .ref Mz, .ref Mr, .ref Mq, .int (iZ Mit), .int (iZ Mmk)]))]) (wr := [(Ma, .inl (k 1, 5340, .inl Af)), (Mk, .inl (k 1, 6, .inl Kf)), (Ml, .inl (k 1, 6, .inl Lf)), (Mb, .inl (k 1, 6, .inl Bf)), (Mh, .inl (k 1, 120, .inl Hf))]) hx hb hml hown hts hKK hP hD hS hA (m_refuse l D k hm Ma Mn Ms My Mt Mp Mx Mo Mk Ml Mb Mh Mc Mz Mr Mq Mst Mtd Msz Mtk Mfr Men Mva Mfk Mfp Mfs Mse Mlt Mdp Mct Mdr Mrs Mit Mmk Mtp Mbt 1) ci_X12_refuse qm_X12_81 ⟨Nat.le_of_ble_eq_true rfl, Nat.le_of_ble_eq_true rfl⟩ ⟨Nat.le_of_ble_eq_true rfl, Nat.le_of_ble_eq_true rfl⟩ [0] [1, 2, 3, 4, 5] rfl rfl rfl rfl rfl (by decide) 0 rfl rfl rfl hl.1 rfl (Nat.le_of_ble_eq_true rfl) dX12_joint_18 (fun u_40 H locs hφ hP hD hS => ?_)
    obtain ⟨I_41, L_42, F_43, G_44⟩ := u_40
    refine W.eq (g2 := F0 m 21 ls [.int (iZ (-1))]) rfl ?_
    exact EWi hx hb hr hlocks hS (fun i => [(-1), 1].getD i 0, fun i => [0].getD i 0, fun i => [Kf, Lf, Bf, Hf].getD i (fun _ => 0), fun i => [].getD i (fun _ => 0)) rfl (show rgI Hf 0 1000000 120 from rgH) (hP.sub [5, 0, 1, 2, 3, 4] rfl) (hD.sub [5, 0, 1, 2, 3, 4] rfl rfl) dX12_joint_21
set_option maxHeartbeats 4000000 in
set_option maxRecDepth 100000 in
theorem q_confirmed (l : Launch) (D : va_G) (k : Nat → ClassId) (hm : Nat) (Ma : Nat) (Mn : Nat) (Ms : Nat) (My : Nat) (Mt : Nat) (Mp : Nat) (Mx : Nat) (Mo : Nat) (Mk : Nat) (Ml : Nat) (Mb : Nat) (Mh : Nat) (Mc : Nat) (Mz : Nat) (Mr : Nat) (Mq : Nat) (Mst : Int) (Mtd : Int) (Msz : Int) (Mtk : Int) (Mfr : Int) (Men : Int) (Mva : Int) (Mfk : Int) (Mfp : Int) (Mfs : Int) (Mse : Int) (Mlt : Int) (Mdp : Int) (Mct : Int) (Mdr : Int) (Mrs : Int) (Mit : Int) (Mmk : Int) (Mtp : Int64) (Mbt : Int64) (Af : Nat → Int32) (Kf : Nat → Int32) (Lf : Nat → Int32) (Bf : Nat → Int32) (Hf : Nat → Int32) (x1 : Int) (x2 : Int) (hM : M0 Af) (rgH : rgI Hf 0 1000000 120) (h9x1 : -2147483648 ≤ x1 ∧ x1 < 2147483648) (h9x2 : -2147483648 ≤ x2 ∧ x2 < 2147483648) : WD (σ := ((Nat → Int) × (Nat → Int64) × (Nat → Nat → Int32) × (Nat → Nat → Int64))) l yX12_confirmed cX12_confirmed 6 (some .int) 7 0 0 D k [.ref hm, .int (iZ x1), .int (iZ x2)] [(hm, .inr (12, [.ref Ma, .ref Mn, .int (iZ Mst), .long Mtp, .long Mbt, .ref Ms, .ref My, .ref Mt, .ref Mp, .ref Mx, .int (iZ Mtd), .int (iZ Msz), .int (iZ Mtk), .int (iZ Mfr), .int (iZ Men), .int (iZ Mva), .int (iZ Mfk), .int (iZ Mfp), .int (iZ Mfs), .int (iZ Mse), .int (iZ Mlt), .ref Mo, .int (iZ Mdp), .int (iZ Mct), .ref Mk, .ref Ml, .ref Mb, .ref Mh, .ref Mc, .int (iZ Mdr), .int (iZ Mrs), .ref Mz, .ref Mr, .ref Mq, .int (iZ Mit), .int (iZ Mmk)])), (Ma, .inl (k 1, 5340, .inl Af)), (Mk, .inl (k 1, 6, .inl Kf)), (Ml, .inl (k 1, 6, .inl Lf)), (Mb, .inl (k 1, 6, .inl Bf)), (Mh, .inl (k 1, 120, .inl Hf))] (fun u => some (.int (iZ (u.1 0)))) (fun u => rgI (u.2.2.1 3) 0 1000000 120) (fun u => [(hm, .inr (12, [.ref Ma, .ref Mn, .int (iZ (u.1 1)), .long Mtp, .long Mbt, .ref Ms, .ref My, .ref Mt, .ref Mp, .ref Mx, .int (iZ Mtd), .int (iZ Msz), .int (iZ Mtk), .int (iZ Mfr), .int (iZ Men), .int (iZ Mva), .int (iZ Mfk), .int (iZ Mfp), .int (iZ Mfs), .int (iZ Mse), .int (iZ Mlt), .ref Mo, .int (iZ Mdp), .int (iZ Mct), .ref Mk, .ref Ml, .ref Mb, .ref Mh, .ref Mc, .int (iZ Mdr), .int (iZ Mrs), .ref Mz, .ref Mr, .ref Mq, .int (iZ Mit), .int (iZ Mmk)])), (Ma, .inl (k 1, 5340, .inl Af)), (Mk, .inl (k 1, 6, .inl (u.2.2.1 0))), (Ml, .inl (k 1, 6, .inl (u.2.2.1 1))), (Mb, .inl (k 1, 6, .inl (u.2.2.1 2))), (Mh, .inl (k 1, 120, .inl (u.2.2.1 3)))]) := by
  refine MW (by decide) (Nat.le_of_ble_eq_true rfl) (fun p e s m below meth c ls A hx hb hml hr hlocks hin hts hown hKK hP hD hS hA hl => ?_)
  have hK := hKK.1
  have hl : lv_has ls 6 [(0, .ref hm), (1, .int (iZ x1)), (2, .int (iZ x2))] := hl
  obtain ⟨m0, m1, m3, m4, m5, mF, mO, mS⟩ := id hM
  refine lv_aload_n hx hb dX12_confirmed_0 rfl (lv_at hl 0 rfl) ?_
  refine lv_iload_n hx hb dX12_confirmed_1 rfl (lv_at hl 1 rfl) ?_
  refine CPV (As := [.int (iZ x1)]) (rest := []) hx hb hml hown hts hKK (hP.sub (ws' := [(hm, .inr (12, [.ref Ma, .ref Mn, .int (iZ Mst), .long Mtp, .long Mbt, .ref Ms, .ref My, .ref Mt, .ref Mp, .ref Mx, .int (iZ Mtd), .int (iZ Msz), .int (iZ Mtk), .int (iZ Mfr), .int (iZ Men), .int (iZ Mva), .int (iZ Mfk), .int (iZ Mfp), .int (iZ Mfs), .int (iZ Mse), .int (iZ Mlt), .ref Mo, .int (iZ Mdp), .int (iZ Mct), .ref Mk, .ref Ml, .ref Mb, .ref Mh, .ref Mc, .int (iZ Mdr), .int (iZ Mrs), .ref Mz, .ref Mr, .ref Mq, .int (iZ Mit), .int (iZ Mmk)])), (Ma, .inl (k 1, 5340, .inl Af))]) [0, 1] rfl) (m_isOrder l D k ([.ref Ma, .ref Mn, .int (iZ Mst), .long Mtp, .long Mbt, .ref Ms, .ref My, .ref Mt, .ref Mp, .ref Mx, .int (iZ Mtd), .int (iZ Msz), .int (iZ Mtk), .int (iZ Mfr), .int (iZ Men), .int (iZ Mva), .int (iZ Mfk), .int (iZ Mfp), .int (iZ Mfs), .int (iZ Mse), .int (iZ Mlt), .ref Mo, .int (iZ Mdp), .int (iZ Mct), .ref Mk, .ref Ml, .ref Mb, .ref Mh, .ref Mc, .int (iZ Mdr), .int (iZ Mrs), .ref Mz, .ref Mr, .ref Mq, .int (iZ Mit), .int (iZ Mmk)]) hm Ma Af x1 rfl hM ⟨by omega, by omega⟩) ci_X12_isOrder qm_X12_324 ⟨Nat.le_of_ble_eq_true rfl, Nat.le_of_ble_eq_true rfl⟩ ⟨Nat.le_of_ble_eq_true rfl, Nat.le_of_ble_eq_true rfl⟩ 0 rfl rfl rfl hl.1 rfl (Nat.le_of_ble_eq_true rfl) dX12_confirmed_2 (fun z_1 hz_1 => ?_)
  rcases hz_1 with ⟨qz_1, hz_1⟩ | ⟨qz_1, hz_1⟩
  ·
    subst qz_1
    refine lv_if_eq (tgt := 16) hx hb dX12_confirmed_5 (by decide) (fun c => absurd c (by decide)) (fun _ => ?_)
    refine lv_aload_n hx hb dX12_confirmed_8 rfl (lv_at hl 0 rfl) ?_
    refine lv_iload_n hx hb dX12_confirmed_9 rfl (lv_at hl 2 rfl) ?_
    refine CPV (As := [.int (iZ x2)]) (rest := []) hx hb hml hown hts hKK (hP.sub (ws' := [(hm, .inr (12, [.ref Ma, .ref Mn, .int (iZ Mst), .long Mtp, .long Mbt, .ref Ms, .ref My, .ref Mt, .ref Mp, .ref Mx, .int (iZ Mtd), .int (iZ Msz), .int (iZ Mtk), .int (iZ Mfr), .int (iZ Men), .int (iZ Mva), .int (iZ Mfk), .int (iZ Mfp), .int (iZ Mfs), .int (iZ Mse), .int (iZ Mlt), .ref Mo, .int (iZ Mdp), .int (iZ Mct), .ref Mk, .ref Ml, .ref Mb, .ref Mh, .ref Mc, .int (iZ Mdr), .int (iZ Mrs), .ref Mz, .ref Mr, .ref Mq, .int (iZ Mit), .int (iZ Mmk)])), (Ma, .inl (k 1, 5340, .inl Af))]) [0, 1] rfl) (m_isSetOf l D k ([.ref Ma, .ref Mn, .int (iZ Mst), .long Mtp, .long Mbt, .ref Ms, .ref My, .ref Mt, .ref Mp, .ref Mx, .int (iZ Mtd), .int (iZ Msz), .int (iZ Mtk), .int (iZ Mfr), .int (iZ Men), .int (iZ Mva), .int (iZ Mfk), .int (iZ Mfp), .int (iZ Mfs), .int (iZ Mse), .int (iZ Mlt), .ref Mo, .int (iZ Mdp), .int (iZ Mct), .ref Mk, .ref Ml, .ref Mb, .ref Mh, .ref Mc, .int (iZ Mdr), .int (iZ Mrs), .ref Mz, .ref Mr, .ref Mq, .int (iZ Mit), .int (iZ Mmk)]) hm Ma Af x2 rfl hM ⟨by omega, by omega⟩) ci_X12_isSetOf qm_X12_348 ⟨Nat.le_of_ble_eq_true rfl, Nat.le_of_ble_eq_true rfl⟩ ⟨Nat.le_of_ble_eq_true rfl, Nat.le_of_ble_eq_true rfl⟩ 0 rfl rfl rfl hl.1 rfl (Nat.le_of_ble_eq_true rfl) dX12_confirmed_10 (fun z_3 hz_3 => ?_)
    rcases hz_3 with ⟨qz_3, hz_3⟩ | ⟨qz_3, hz_3⟩
    ·
      subst qz_3
      refine lv_if_ne (tgt := 22) hx hb dX12_confirmed_13 (by decide) (fun _ => ?_) (fun c => absurd c (by decide))
      have hodx := mO x1 (by omega) (by omega)
      refine lv_aload_n hx hb dX12_confirmed_22 rfl (lv_at hl 0 rfl) ?_
      refine lv_iload_n hx hb dX12_confirmed_23 rfl (lv_at hl 1 rfl) ?_
      refine CWV (As := [.int (iZ x1)]) (rest := []) (wc := [(hm, .inr (12, [.ref Ma, .ref Mn, .int (iZ Mst), .long Mtp, .long Mbt, .ref Ms, .ref My, .ref Mt, .ref Mp, .ref Mx, .int (iZ Mtd), .int (iZ Msz), .int (iZ Mtk), .int (iZ Mfr), .int (iZ Men), .int (iZ Mva), .int (iZ Mfk), .int (iZ Mfp), .int (iZ Mfs), .int (iZ Mse), .int (iZ Mlt), .ref Mo, .int (iZ Mdp), .int (iZ Mct), .ref Mk, .ref Ml, .ref Mb, .ref Mh, .ref Mc, .int (iZ Mdr), .int (iZ Mrs), .ref Mz, .ref Mr, .ref Mq, .int (iZ Mit), .int (iZ Mmk)])), (Ma, .inl (k 1, 5340, .inl Af)), (Mk, .inl (k 1, 6, .inl Kf)), (Ml, .inl (k 1, 6, .inl Lf)), (Mb, .inl (k 1, 6, .inl Bf)), (Mh, .inl (k 1, 120, .inl Hf))]) (wr := []) hx hb hml hown hts hKK hP hD hS hA (m_laysOrder l D k hm Ma Mn Ms My Mt Mp Mx Mo Mk Ml Mb Mh Mc Mz Mr Mq Mst Mtd Msz Mtk Mfr Men Mva Mfk Mfp Mfs Mse Mlt Mdp Mct Mdr Mrs Mit Mmk Mtp Mbt Af Kf Lf Bf Hf x1 hM ⟨by omega, by omega⟩ rgH) ci_X12_laysOrder qm_X12_318 ⟨Nat.le_of_ble_eq_true rfl, Nat.le_of_ble_eq_true rfl⟩ ⟨Nat.le_of_ble_eq_true rfl, Nat.le_of_ble_eq_true rfl⟩ [0, 1, 2, 3, 4, 5] [] rfl rfl rfl rfl rfl (by decide) 0 rfl rfl rfl hl.1 rfl (Nat.le_of_ble_eq_true rfl) dX12_confirmed_24 (fun u_5 H locs hφ hP hD hS => ?_)
      obtain ⟨I_6, L_7, F_8, G_9⟩ := u_5
      obtain ⟨p_11, p_12, p_13⟩ : (KR (F_8 0) 6) ∧ (rgI (F_8 1) (-1) 5 6) ∧ (rgI (F_8 3) 0 1000000 120) := hφ
      refine W.eq (g2 := F0 m 27 ls []) rfl ?_
      refine lv_aload_n hx hb dX12_confirmed_27 rfl (lv_at hl 0 rfl) ?_
      refine va_get (D := D) (ci := 12) (v := .ref Ma) (C := RX12) (T := TX12) (N := 36) hx hb hts iX12 hown hK hP 0 rfl rfl 0 (by decide) (hts _ qf_X12_7) (fun _ h => h) rfl dX12_confirmed_28 ?_
      refine lv_iload_n hx hb dX12_confirmed_31 rfl (lv_at hl 1 rfl) ?_
      refine CRS (As := [.int (iZ x1)]) (rest := [.ref Ma]) hx hb hml hown hts hKK (hP.sub (ws' := []) [] rfl) (m_givenRow l D k x1) ci_X12_givenRow qm_X12_315 ⟨Nat.le_of_ble_eq_true rfl, Nat.le_of_ble_eq_true rfl⟩ ⟨Nat.le_of_ble_eq_true rfl, Nat.le_of_ble_eq_true rfl⟩ rfl hl.1 rfl (Nat.le_of_ble_eq_true rfl) dX12_confirmed_32 ?_
      refine va_iald hx hb hK hP 1 1 rfl rfl (zin (e := (78 + (2 * x1))) (n := 5340) ⟨by omega, by omega⟩ (by decide)) dX12_confirmed_35 ?_
      refine lv_topi (fun x_14 ex_14 => ?_)
      obtain rfl : x_14 = iZ (gz Af (78 + (2 * x1))) := ex_14.trans (gz_eq ⟨by omega, by omega⟩)
      have h_15 := gz_rg Af (78 + (2 * x1))
      refine lv_istore_n (lv' := [(3, .int (iZ (gz Af (78 + (2 * x1))))), (0, .ref hm), (1, .int (iZ x1)), (2, .int (iZ x2))]) hx hb dX12_confirmed_36 rfl hl (by decide) rfl (fun ls hl => ?_)
      refine lv_aload_n hx hb dX12_confirmed_37 rfl (lv_at hl 1 rfl) ?_
      refine va_get (D := D) (ci := 12) (v := .ref Ma) (C := RX12) (T := TX12) (N := 36) hx hb hts iX12 hown hK hP 0 rfl rfl 0 (by decide) (hts _ qf_X12_7) (fun _ h => h) rfl dX12_confirmed_38 ?_
      refine lv_iload_n hx hb dX12_confirmed_41 rfl (lv_at hl 2 rfl) ?_
      refine CRS (As := [.int (iZ x1)]) (rest := [.ref Ma]) hx hb hml hown hts hKK (hP.sub (ws' := []) [] rfl) (m_givenRow l D k x1) ci_X12_givenRow qm_X12_315 ⟨Nat.le_of_ble_eq_true rfl, Nat.le_of_ble_eq_true rfl⟩ ⟨Nat.le_of_ble_eq_true rfl, Nat.le_of_ble_eq_true rfl⟩ rfl hl.1 rfl (Nat.le_of_ble_eq_true rfl) dX12_confirmed_42 ?_
      refine lv_iconst (v := iZ 1) hx hb dX12_confirmed_45 (by decide) ?_
      refine lv_iadd hx hb dX12_confirmed_46 ?_
      refine lv_topi (fun x_16 ex_16 => ?_)
      obtain rfl : x_16 = iZ ((78 + (2 * x1)) + 1) := ex_16.trans (iZ_add (78 + (2 * x1)) 1)
      refine va_iald hx hb hK hP 1 1 rfl rfl (zin (e := ((78 + (2 * x1)) + 1)) (n := 5340) ⟨by omega, by omega⟩ (by decide)) dX12_confirmed_47 ?_
      refine lv_topi (fun x_17 ex_17 => ?_)
      obtain rfl : x_17 = iZ (gz Af ((78 + (2 * x1)) + 1)) := ex_17.trans (gz_eq ⟨by omega, by omega⟩)
      have h_18 := gz_rg Af ((78 + (2 * x1)) + 1)
      refine lv_istore (lv' := [(4, .int (iZ (gz Af ((78 + (2 * x1)) + 1)))), (3, .int (iZ (gz Af (78 + (2 * x1))))), (0, .ref hm), (1, .int (iZ x1)), (2, .int (iZ x2))]) hx hb dX12_confirmed_48 hl (by decide) rfl (fun ls hl => ?_)
      refine lv_iconst (v := iZ 0) hx hb dX12_confirmed_50 (by decide) ?_
      refine lv_istore (lv' := [(5, .int (iZ 0)), (4, .int (iZ (gz Af ((78 + (2 * x1)) + 1)))), (3, .int (iZ (gz Af (78 + (2 * x1))))), (0, .ref hm), (1, .int (iZ x1)), (2, .int (iZ x2))]) hx hb dX12_confirmed_51 hl (by decide) rfl (fun ls hl => ?_)
      have HL53 : ∀ (fu : Nat) (v4_53 : Int) (v5_53 : Int) (H : Heap) (locs : List Loc) (ls : Array Slot), ((gz Af 0) + 2 - v5_53) < (fu : Int) → ((0 ≤ v5_53 ∧ v5_53 ≤ (gz Af 0) + 1)) → (0 ≤ v4_53 ∧ v4_53 ≤ 1000000) → va_P D vwCl [(hm, .inr (12, [.ref Ma, .ref Mn, .int (iZ Mst), .long Mtp, .long Mbt, .ref Ms, .ref My, .ref Mt, .ref Mp, .ref Mx, .int (iZ Mtd), .int (iZ Msz), .int (iZ Mtk), .int (iZ Mfr), .int (iZ Men), .int (iZ Mva), .int (iZ Mfk), .int (iZ Mfp), .int (iZ Mfs), .int (iZ Mse), .int (iZ Mlt), .ref Mo, .int (iZ Mdp), .int (iZ Mct), .ref Mk, .ref Ml, .ref Mb, .ref Mh, .ref Mc, .int (iZ Mdr), .int (iZ Mrs), .ref Mz, .ref Mr, .ref Mq, .int (iZ Mit), .int (iZ Mmk)])), (Ma, .inl (k 1, 5340, .inl Af)), (Mk, .inl (k 1, 6, .inl (F_8 0))), (Ml, .inl (k 1, 6, .inl (F_8 1))), (Mb, .inl (k 1, 6, .inl (F_8 2))), (Mh, .inl (k 1, 120, .inl (F_8 3)))] H → va_D A [(hm, .inr (12, [.ref Ma, .ref Mn, .int (iZ Mst), .long Mtp, .long Mbt, .ref Ms, .ref My, .ref Mt, .ref Mp, .ref Mx, .int (iZ Mtd), .int (iZ Msz), .int (iZ Mtk), .int (iZ Mfr), .int (iZ Men), .int (iZ Mva), .int (iZ Mfk), .int (iZ Mfp), .int (iZ Mfs), .int (iZ Mse), .int (iZ Mlt), .ref Mo, .int (iZ Mdp), .int (iZ Mct), .ref Mk, .ref Ml, .ref Mb, .ref Mh, .ref Mc, .int (iZ Mdr), .int (iZ Mrs), .ref Mz, .ref Mr, .ref Mq, .int (iZ Mit), .int (iZ Mmk)])), (Ma, .inl (k 1, 5340, .inl Af)), (Mk, .inl (k 1, 6, .inl (F_8 0))), (Ml, .inl (k 1, 6, .inl (F_8 1))), (Mb, .inl (k 1, 6, .inl (F_8 2))), (Mh, .inl (k 1, 120, .inl (F_8 3)))] → va_S A s.heap H locs → lv_has ls 6 [(5, .int (iZ v5_53)), (4, .int (iZ v4_53)), (3, .int (iZ (gz Af (78 + (2 * x1))))), (0, .ref hm), (1, .int (iZ x1)), (2, .int (iZ x2))] → W p l e (rj 7 0 0) s m [.ref hm, .int (iZ x1), .int (iZ x2)].toArray below meth c H locs 0 0 (MQ below (QW (σ := ((Nat → Int) × (Nat → Int64) × (Nat → Nat → Int32) × (Nat → Nat → Int64))) (fun u => some (.int (iZ (u.1 0)))) (fun u => rgI (u.2.2.1 3) 0 1000000 120) (fun u => [(hm, .inr (12, [.ref Ma, .ref Mn, .int (iZ (u.1 1)), .long Mtp, .long Mbt, .ref Ms, .ref My, .ref Mt, .ref Mp, .ref Mx, .int (iZ Mtd), .int (iZ Msz), .int (iZ Mtk), .int (iZ Mfr), .int (iZ Men), .int (iZ Mva), .int (iZ Mfk), .int (iZ Mfp), .int (iZ Mfs), .int (iZ Mse), .int (iZ Mlt), .ref Mo, .int (iZ Mdp), .int (iZ Mct), .ref Mk, .ref Ml, .ref Mb, .ref Mh, .ref Mc, .int (iZ Mdr), .int (iZ Mrs), .ref Mz, .ref Mr, .ref Mq, .int (iZ Mit), .int (iZ Mmk)])), (Ma, .inl (k 1, 5340, .inl Af)), (Mk, .inl (k 1, 6, .inl (u.2.2.1 0))), (Ml, .inl (k 1, 6, .inl (u.2.2.1 1))), (Mb, .inl (k 1, 6, .inl (u.2.2.1 2))), (Mh, .inl (k 1, 120, .inl (u.2.2.1 3)))]) D A) [.ref hm, .int (iZ x1), .int (iZ x2)].toArray s 0 0 A) (F0 m 53 ls []) := by
        intro fu
        induction fu with
        | zero => intro v4_53 v5_53 H locs ls hμ53 hi53 hf0_53 hP hD hS hl; exact absurd hμ53 (by omega)
        | succ fu ih53 =>
          intro v4_53 v5_53 H locs ls hμ53 hi53 hf0_53 hP hD hS hl
          refine lv_iload hx hb dX12_confirmed_53 (lv_at hl 0 rfl) ?_
          refine lv_aload_n hx hb dX12_confirmed_55 rfl (lv_at hl 3 rfl) ?_
          refine va_get (D := D) (ci := 12) (v := .ref Ma) (C := RX12) (T := TX12) (N := 36) hx hb hts iX12 hown hK hP 0 rfl rfl 0 (by decide) (hts _ qf_X12_7) (fun _ h => h) rfl dX12_confirmed_56 ?_
          refine lv_iconst (v := iZ 0) hx hb dX12_confirmed_59 (by decide) ?_
          refine va_iald hx hb hK hP 1 1 rfl rfl (zin (e := 0) (n := 5340) ⟨by omega, by omega⟩ (by decide)) dX12_confirmed_60 ?_
          refine lv_topi (fun x_19 ex_19 => ?_)
          obtain rfl : x_19 = iZ (gz Af 0) := ex_19.trans (gz_eq ⟨by omega, by omega⟩)
          have h_20 := gz_rg Af 0
          refine lv_icmp_ge (tgt := 124) hx hb dX12_confirmed_61 (by decide) (fun c_21 => ?_) (fun c_21 => ?_)
          ·
            have c_21 := (zle (x := iZ (gz Af 0)) (y := iZ v5_53) rfl rfl ⟨by omega, by omega⟩ ⟨by omega, by omega⟩).mp c_21
            refine lv_aload_n hx hb dX12_confirmed_124 rfl (lv_at hl 3 rfl) ?_
            refine lv_iload hx hb dX12_confirmed_125 (lv_at hl 1 rfl) ?_
            refine CWV (As := [.int (iZ v4_53)]) (rest := []) (wc := [(hm, .inr (12, [.ref Ma, .ref Mn, .int (iZ Mst), .long Mtp, .long Mbt, .ref Ms, .ref My, .ref Mt, .ref Mp, .ref Mx, .int (iZ Mtd), .int (iZ Msz), .int (iZ Mtk), .int (iZ Mfr), .int (iZ Men), .int (iZ Mva), .int (iZ Mfk), .int (iZ Mfp), .int (iZ Mfs), .int (iZ Mse), .int (iZ Mlt), .ref Mo, .int (iZ Mdp), .int (iZ Mct), .ref Mk, .ref Ml, .ref Mb, .ref Mh, .ref Mc, .int (iZ Mdr), .int (iZ Mrs), .ref Mz, .ref Mr, .ref Mq, .int (iZ Mit), .int (iZ Mmk)]))]) (wr := [(Ma, .inl (k 1, 5340, .inl Af)), (Mk, .inl (k 1, 6, .inl (F_8 0))), (Ml, .inl (k 1, 6, .inl (F_8 1))), (Mb, .inl (k 1, 6, .inl (F_8 2))), (Mh, .inl (k 1, 120, .inl (F_8 3)))]) hx hb hml hown hts hKK hP hD hS hA (m_orNever l D k hm Ma Mn Ms My Mt Mp Mx Mo Mk Ml Mb Mh Mc Mz Mr Mq Mst Mtd Msz Mtk Mfr Men Mva Mfk Mfp Mfs Mse Mlt Mdp Mct Mdr Mrs Mit Mmk Mtp Mbt v4_53 ⟨by omega, by omega⟩) ci_X12_orNever qm_X12_284 ⟨Nat.le_of_ble_eq_true rfl, Nat.le_of_ble_eq_true rfl⟩ ⟨Nat.le_of_ble_eq_true rfl, Nat.le_of_ble_eq_true rfl⟩ [0] [1, 2, 3, 4, 5] rfl rfl rfl rfl rfl (by decide) 0 rfl rfl rfl hl.1 rfl (Nat.le_of_ble_eq_true rfl) dX12_confirmed_127 (fun u_22 H locs hφ hP hD hS => ?_)
            obtain ⟨I_23, L_24, F_25, G_26⟩ := u_22
            have p_28 : ((v4_53 : Int) ≥ 1000000 ∧ (I_23 0) = -1 ∧ (I_23 1) = 6) ∨ ((v4_53 : Int) < 1000000 ∧ (I_23 0) = v4_53 ∧ (I_23 1) = 0) := hφ
            refine W.eq (g2 := F0 m 130 ls [.int (iZ (I_23 0))]) rfl ?_
            exact EWi hx hb hr hlocks hS (fun i => [(I_23 0), (I_23 1)].getD i 0, fun i => [0].getD i 0, fun i => [(F_8 0), (F_8 1), (F_8 2), (F_8 3)].getD i (fun _ => 0), fun i => [].getD i (fun _ => 0)) rfl (show rgI (F_8 3) 0 1000000 120 from p_13) (hP.sub [5, 0, 1, 2, 3, 4] rfl) (hD.sub [5, 0, 1, 2, 3, 4] rfl rfl) dX12_confirmed_130
          ·
            have c_21 := mt (zle (x := iZ (gz Af 0)) (y := iZ v5_53) rfl rfl ⟨by omega, by omega⟩ ⟨by omega, by omega⟩).mpr c_21
            refine lv_iload hx hb dX12_confirmed_64 (lv_at hl 0 rfl) ?_
            refine lv_iload_n hx hb dX12_confirmed_66 rfl (lv_at hl 2 rfl) ?_
            refine lv_icmp_eq (tgt := 118) hx hb dX12_confirmed_67 (by decide) (fun c_29 => ?_) (fun c_29 => ?_)
            ·
              have c_29 := (zeq (x := iZ v5_53) (y := iZ (gz Af (78 + (2 * x1)))) rfl rfl ⟨by omega, by omega⟩ ⟨by omega, by omega⟩).mp c_29
              refine lv_iinc (v := iZ (v5_53 + 1)) (lv' := [(5, .int (iZ (v5_53 + 1))), (4, .int (iZ v4_53)), (3, .int (iZ (gz Af (78 + (2 * x1))))), (0, .ref hm), (1, .int (iZ x1)), (2, .int (iZ x2))]) hx hb dX12_confirmed_118 hl (k := 0) rfl (iZ_add v5_53 1) (by decide) rfl (fun ls hl => ?_)
              refine lv_goto (tgt := 53) hx hb dX12_confirmed_121 (by decide) ?_
              exact ih53  v4_53 (v5_53 + 1) _ _ _ (by omega) (show (0 ≤ (v5_53 + 1) ∧ (v5_53 + 1) ≤ (gz Af 0) + 1) from ⟨by omega, by omega⟩) (show 0 ≤ v4_53 ∧ v4_53 ≤ 1000000 from (by omega)) (hP.sub [0, 1, 2, 3, 4, 5] rfl) (hD.sub [0, 1, 2, 3, 4, 5] rfl rfl) hS (lv_sub hl [0, 1, 2, 3, 4, 5] rfl)
            ·
              have c_29 := mt (zeq (x := iZ v5_53) (y := iZ (gz Af (78 + (2 * x1)))) rfl rfl ⟨by omega, by omega⟩ ⟨by omega, by omega⟩).mpr c_29
              refine lv_iload_n hx hb dX12_confirmed_70 rfl (lv_at hl 5 rfl) ?_
              refine lv_iload hx hb dX12_confirmed_71 (lv_at hl 0 rfl) ?_
              refine lv_ishr hx hb dX12_confirmed_73 ?_
              refine lv_topi (fun x_31 ex_31 => ?_)
              obtain ⟨z_30, hz_30, hz_30a, hz_30b⟩ := i32_z x_31
              subst hz_30
              refine lv_iconst (v := iZ 1) hx hb dX12_confirmed_74 (by decide) ?_
              refine lv_iand hx hb dX12_confirmed_75 ?_
              refine lv_topi (fun x_33 ex_33 => ?_)
              obtain ⟨z_32, hz_32, hz_32a, hz_32b⟩ := i32_z x_33
              subst hz_32
              refine lv_iconst (v := iZ 1) hx hb dX12_confirmed_76 (by decide) ?_
              refine lv_icmp_ne (tgt := 118) hx hb dX12_confirmed_77 (by decide) (fun c_34 => ?_) (fun c_34 => ?_)
              ·
                have c_34 := mt (zeq (x := iZ z_32) (y := iZ 1) rfl rfl ⟨by omega, by omega⟩ ⟨by omega, by omega⟩).mpr c_34
                refine lv_iinc (v := iZ (v5_53 + 1)) (lv' := [(5, .int (iZ (v5_53 + 1))), (4, .int (iZ v4_53)), (3, .int (iZ (gz Af (78 + (2 * x1))))), (0, .ref hm), (1, .int (iZ x1)), (2, .int (iZ x2))]) hx hb dX12_confirmed_118 hl (k := 0) rfl (iZ_add v5_53 1) (by decide) rfl (fun ls hl => ?_)
                refine lv_goto (tgt := 53) hx hb dX12_confirmed_121 (by decide) ?_
                exact ih53  v4_53 (v5_53 + 1) _ _ _ (by omega) (show (0 ≤ (v5_53 + 1) ∧ (v5_53 + 1) ≤ (gz Af 0) + 1) from ⟨by omega, by omega⟩) (show 0 ≤ v4_53 ∧ v4_53 ≤ 1000000 from (by omega)) (hP.sub [0, 1, 2, 3, 4, 5] rfl) (hD.sub [0, 1, 2, 3, 4, 5] rfl rfl) hS (lv_sub hl [0, 1, 2, 3, 4, 5] rfl)
              ·
                have c_34 := (zeq (x := iZ z_32) (y := iZ 1) rfl rfl ⟨by omega, by omega⟩ ⟨by omega, by omega⟩).mp c_34
                refine lv_iload hx hb dX12_confirmed_80 (lv_at hl 1 rfl) ?_
                refine lv_aload_n hx hb dX12_confirmed_82 rfl (lv_at hl 3 rfl) ?_
                refine va_get (D := D) (ci := 12) (v := .ref Mk) (C := RX12) (T := TX12) (N := 36) hx hb hts iX12 hown hK hP 0 rfl rfl 24 (by decide) (hts _ qf_X12_47) (fun _ h => h) rfl dX12_confirmed_83 ?_
                refine lv_iload hx hb dX12_confirmed_86 (lv_at hl 0 rfl) ?_
                refine va_iald hx hb hK hP 2 1 rfl rfl (zin (e := v5_53) (n := 6) ⟨by omega, by omega⟩ (by decide)) dX12_confirmed_88 ?_
                refine lv_topi (fun x_35 ex_35 => ?_)
                obtain rfl : x_35 = iZ (gz (F_8 0) v5_53) := ex_35.trans (gz_eq ⟨by omega, by omega⟩)
                have h_36 := p_11 v5_53 (by omega) (by omega)
                refine lv_ldc (own := RX12) (v := 1000000) hx hb hown (hts _ qk_X12_88) dX12_confirmed_89 ?_
                refine W.eq (g2 := F0 m 91 ls [.int (iZ 1000000), .int (iZ (gz (F_8 0) v5_53)), .int (iZ v4_53)]) rfl ?_
                refine lv_icmp_ne (tgt := 99) hx hb dX12_confirmed_91 (by decide) (fun c_37 => ?_) (fun c_37 => ?_)
                ·
                  have c_37 := mt (zeq (x := iZ (gz (F_8 0) v5_53)) (y := iZ 1000000) rfl rfl ⟨by omega, by omega⟩ ⟨by omega, by omega⟩).mpr c_37
                  refine lv_aload_n hx hb dX12_confirmed_99 rfl (lv_at hl 3 rfl) ?_
                  refine lv_iload hx hb dX12_confirmed_100 (lv_at hl 0 rfl) ?_
                  refine lv_aload_n hx hb dX12_confirmed_102 rfl (lv_at hl 3 rfl) ?_
                  refine va_get (D := D) (ci := 12) (v := .ref Mk) (C := RX12) (T := TX12) (N := 36) hx hb hts iX12 hown hK hP 0 rfl rfl 24 (by decide) (hts _ qf_X12_47) (fun _ h => h) rfl dX12_confirmed_103 ?_
                  refine lv_iload hx hb dX12_confirmed_106 (lv_at hl 0 rfl) ?_
                  refine va_iald hx hb hK hP 2 1 rfl rfl (zin (e := v5_53) (n := 6) ⟨by omega, by omega⟩ (by decide)) dX12_confirmed_108 ?_
                  refine lv_topi (fun x_38 ex_38 => ?_)
                  obtain rfl : x_38 = iZ (gz (F_8 0) v5_53) := ex_38.trans (gz_eq ⟨by omega, by omega⟩)
                  have h_39 := p_11 v5_53 (by omega) (by omega)
                  refine lv_iload_n hx hb dX12_confirmed_109 rfl (lv_at hl 2 rfl) ?_
                  refine CPV (As := [.int (iZ v5_53), .int (iZ (gz (F_8 0) v5_53)), .int (iZ (gz Af (78 + (2 * x1))))]) (rest := [.int (iZ v4_53)]) hx hb hml hown hts hKK (hP.sub (ws' := [(hm, .inr (12, [.ref Ma, .ref Mn, .int (iZ Mst), .long Mtp, .long Mbt, .ref Ms, .ref My, .ref Mt, .ref Mp, .ref Mx, .int (iZ Mtd), .int (iZ Msz), .int (iZ Mtk), .int (iZ Mfr), .int (iZ Men), .int (iZ Mva), .int (iZ Mfk), .int (iZ Mfp), .int (iZ Mfs), .int (iZ Mse), .int (iZ Mlt), .ref Mo, .int (iZ Mdp), .int (iZ Mct), .ref Mk, .ref Ml, .ref Mb, .ref Mh, .ref Mc, .int (iZ Mdr), .int (iZ Mrs), .ref Mz, .ref Mr, .ref Mq, .int (iZ Mit), .int (iZ Mmk)])), (Ma, .inl (k 1, 5340, .inl Af))]) [0, 1] rfl) (m_arrival l D k ([.ref Ma, .ref Mn, .int (iZ Mst), .long Mtp, .long Mbt, .ref Ms, .ref My, .ref Mt, .ref Mp, .ref Mx, .int (iZ Mtd), .int (iZ Msz), .int (iZ Mtk), .int (iZ Mfr), .int (iZ Men), .int (iZ Mva), .int (iZ Mfk), .int (iZ Mfp), .int (iZ Mfs), .int (iZ Mse), .int (iZ Mlt), .ref Mo, .int (iZ Mdp), .int (iZ Mct), .ref Mk, .ref Ml, .ref Mb, .ref Mh, .ref Mc, .int (iZ Mdr), .int (iZ Mrs), .ref Mz, .ref Mr, .ref Mq, .int (iZ Mit), .int (iZ Mmk)]) hm Ma Af v5_53 (gz (F_8 0) v5_53) (gz Af (78 + (2 * x1))) rfl hM ⟨by omega, by omega⟩ ⟨by omega, by omega⟩ ⟨by omega, by omega⟩) ci_X12_arrival qm_X12_280 ⟨Nat.le_of_ble_eq_true rfl, Nat.le_of_ble_eq_true rfl⟩ ⟨Nat.le_of_ble_eq_true rfl, Nat.le_of_ble_eq_true rfl⟩ 0 rfl rfl rfl hl.1 rfl (Nat.le_of_ble_eq_true rfl) dX12_confirmed_110 (fun z_40 hz_40 => ?_)
                  obtain ⟨ez_40, az_40⟩ := hz_40
                  refine va_mmax (rest := []) hx hb (by rw [hml]; exact hl.1.symm) (own := RX12) hown (hts _ qm_X12_255) (hts _ qt_yJ9_max_7cf53) (hts _ qz_J9) (hts _ qc_J9_max_7cf53) (Nat.le_of_ble_eq_true rfl) (Nat.le_of_ble_eq_true rfl) (Nat.le_of_ble_eq_true rfl) (Nat.le_of_ble_eq_true rfl) dX12_confirmed_113 ?_
                  refine lv_topi (fun x_41 ex_41 => ?_)
                  obtain rfl : x_41 = iZ (max v4_53 z_40) := ex_41.trans (zmax ⟨by omega, by omega⟩ ⟨by omega, by omega⟩)
                  refine lv_istore (lv' := [(4, .int (iZ (max v4_53 z_40))), (5, .int (iZ v5_53)), (3, .int (iZ (gz Af (78 + (2 * x1))))), (0, .ref hm), (1, .int (iZ x1)), (2, .int (iZ x2))]) hx hb dX12_confirmed_116 hl (by decide) rfl (fun ls hl => ?_)
                  refine lv_iinc (v := iZ (v5_53 + 1)) (lv' := [(5, .int (iZ (v5_53 + 1))), (4, .int (iZ (max v4_53 z_40))), (3, .int (iZ (gz Af (78 + (2 * x1))))), (0, .ref hm), (1, .int (iZ x1)), (2, .int (iZ x2))]) hx hb dX12_confirmed_118 hl (k := 1) rfl (iZ_add v5_53 1) (by decide) rfl (fun ls hl => ?_)
                  refine lv_goto (tgt := 53) hx hb dX12_confirmed_121 (by decide) ?_
                  exact ih53  (max v4_53 z_40) (v5_53 + 1) _ _ _ (by omega) (show (0 ≤ (v5_53 + 1) ∧ (v5_53 + 1) ≤ (gz Af 0) + 1) from ⟨by omega, by omega⟩) (show 0 ≤ (max v4_53 z_40) ∧ (max v4_53 z_40) ≤ 1000000 from (by omega)) (hP.sub [0, 1, 2, 3, 4, 5] rfl) (hD.sub [0, 1, 2, 3, 4, 5] rfl rfl) hS (lv_sub hl [0, 1, 2, 3, 4, 5] rfl)
                ·
                  have c_37 := (zeq (x := iZ (gz (F_8 0) v5_53)) (y := iZ 1000000) rfl rfl ⟨by omega, by omega⟩ ⟨by omega, by omega⟩).mp c_37
                  refine lv_ldc (own := RX12) (v := 1000000) hx hb hown (hts _ qk_X12_88) dX12_confirmed_94 ?_
                  refine W.eq (g2 := F0 m 96 ls [.int (iZ 1000000), .int (iZ v4_53)]) rfl ?_
                  refine lv_goto (tgt := 113) hx hb dX12_confirmed_96 (by decide) ?_
                  refine va_mmax (rest := []) hx hb (by rw [hml]; exact hl.1.symm) (own := RX12) hown (hts _ qm_X12_255) (hts _ qt_yJ9_max_7cf53) (hts _ qz_J9) (hts _ qc_J9_max_7cf53) (Nat.le_of_ble_eq_true rfl) (Nat.le_of_ble_eq_true rfl) (Nat.le_of_ble_eq_true rfl) (Nat.le_of_ble_eq_true rfl) dX12_confirmed_113 ?_
                  refine lv_topi (fun x_42 ex_42 => ?_)
                  obtain rfl : x_42 = iZ (max v4_53 1000000) := ex_42.trans (zmax ⟨by omega, by omega⟩ ⟨by omega, by omega⟩)
                  refine lv_istore (lv' := [(4, .int (iZ (max v4_53 1000000))), (5, .int (iZ v5_53)), (3, .int (iZ (gz Af (78 + (2 * x1))))), (0, .ref hm), (1, .int (iZ x1)), (2, .int (iZ x2))]) hx hb dX12_confirmed_116 hl (by decide) rfl (fun ls hl => ?_)
                  refine lv_iinc (v := iZ (v5_53 + 1)) (lv' := [(5, .int (iZ (v5_53 + 1))), (4, .int (iZ (max v4_53 1000000))), (3, .int (iZ (gz Af (78 + (2 * x1))))), (0, .ref hm), (1, .int (iZ x1)), (2, .int (iZ x2))]) hx hb dX12_confirmed_118 hl (k := 1) rfl (iZ_add v5_53 1) (by decide) rfl (fun ls hl => ?_)
                  refine lv_goto (tgt := 53) hx hb dX12_confirmed_121 (by decide) ?_
                  exact ih53  (max v4_53 1000000) (v5_53 + 1) _ _ _ (by omega) (show (0 ≤ (v5_53 + 1) ∧ (v5_53 + 1) ≤ (gz Af 0) + 1) from ⟨by omega, by omega⟩) (show 0 ≤ (max v4_53 1000000) ∧ (max v4_53 1000000) ≤ 1000000 from (by omega)) (hP.sub [0, 1, 2, 3, 4, 5] rfl) (hD.sub [0, 1, 2, 3, 4, 5] rfl rfl) hS (lv_sub hl [0, 1, 2, 3, 4, 5] rfl)
      exact HL53 10 (gz Af ((78 + (2 * x1)) + 1)) 0 _ _ _ (by omega) (show (0 ≤ 0 ∧ 0 ≤ (gz Af 0) + 1) from ⟨by omega, by omega⟩) (show 0 ≤ (gz Af ((78 + (2 * x1)) + 1)) ∧ (gz Af ((78 + (2 * x1)) + 1)) ≤ 1000000 from (by omega)) (hP.sub [0, 1, 2, 3, 4, 5] rfl) (hD.sub [0, 1, 2, 3, 4, 5] rfl rfl) hS (lv_sub hl [0, 1, 2, 3, 4, 5] rfl)
    ·
      subst qz_3
      refine lv_if_ne (tgt := 22) hx hb dX12_confirmed_13 (by decide) (fun c => absurd (by decide) c) (fun _ => ?_)
      refine lv_aload_n hx hb dX12_confirmed_16 rfl (lv_at hl 0 rfl) ?_
      refine lv_iconst (v := iZ 1) hx hb dX12_confirmed_17 (by decide) ?_
      refine CWV (As := [.int (iZ 1)]) (rest := []) (wc := [(hm, .inr (12, [.ref Ma, .ref Mn, .int (iZ Mst), .long Mtp, .long Mbt, .ref Ms, .ref My, .ref Mt, .ref Mp, .ref Mx, .int (iZ Mtd), .int (iZ Msz), .int (iZ Mtk), .int (iZ Mfr), .int (iZ Men), .int (iZ Mva), .int (iZ Mfk), .int (iZ Mfp), .int (iZ Mfs), .int (iZ Mse), .int (iZ Mlt), .ref Mo, .int (iZ Mdp), .int (iZ Mct), .ref Mk, .ref Ml, .ref Mb, .ref Mh, .ref Mc, .int (iZ Mdr), .int (iZ Mrs), .ref Mz, .ref Mr, .ref Mq, .int (iZ Mit), .int (iZ Mmk)]))]) (wr := [(Ma, .inl (k 1, 5340, .inl Af)), (Mk, .inl (k 1, 6, .inl Kf)), (Ml, .inl (k 1, 6, .inl Lf)), (Mb, .inl (k 1, 6, .inl Bf)), (Mh, .inl (k 1, 120, .inl Hf))]) hx hb hml hown hts hKK hP hD hS hA (m_refuse l D k hm Ma Mn Ms My Mt Mp Mx Mo Mk Ml Mb Mh Mc Mz Mr Mq Mst Mtd Msz Mtk Mfr Men Mva Mfk Mfp Mfs Mse Mlt Mdp Mct Mdr Mrs Mit Mmk Mtp Mbt 1) ci_X12_refuse qm_X12_81 ⟨Nat.le_of_ble_eq_true rfl, Nat.le_of_ble_eq_true rfl⟩ ⟨Nat.le_of_ble_eq_true rfl, Nat.le_of_ble_eq_true rfl⟩ [0] [1, 2, 3, 4, 5] rfl rfl rfl rfl rfl (by decide) 0 rfl rfl rfl hl.1 rfl (Nat.le_of_ble_eq_true rfl) dX12_confirmed_18 (fun u_44 H locs hφ hP hD hS => ?_)
      obtain ⟨I_45, L_46, F_47, G_48⟩ := u_44
      refine W.eq (g2 := F0 m 21 ls [.int (iZ (-1))]) rfl ?_
      exact EWi hx hb hr hlocks hS (fun i => [(-1), 1].getD i 0, fun i => [0].getD i 0, fun i => [Kf, Lf, Bf, Hf].getD i (fun _ => 0), fun i => [].getD i (fun _ => 0)) rfl (show rgI Hf 0 1000000 120 from rgH) (hP.sub [5, 0, 1, 2, 3, 4] rfl) (hD.sub [5, 0, 1, 2, 3, 4] rfl rfl) dX12_confirmed_21
  ·
    subst qz_1
    refine lv_if_eq (tgt := 16) hx hb dX12_confirmed_5 (by decide) (fun _ => ?_) (fun c => absurd (by decide) c)
    refine lv_aload_n hx hb dX12_confirmed_16 rfl (lv_at hl 0 rfl) ?_
    refine lv_iconst (v := iZ 1) hx hb dX12_confirmed_17 (by decide) ?_
    refine CWV (As := [.int (iZ 1)]) (rest := []) (wc := [(hm, .inr (12, [.ref Ma, .ref Mn, .int (iZ Mst), .long Mtp, .long Mbt, .ref Ms, .ref My, .ref Mt, .ref Mp, .ref Mx, .int (iZ Mtd), .int (iZ Msz), .int (iZ Mtk), .int (iZ Mfr), .int (iZ Men), .int (iZ Mva), .int (iZ Mfk), .int (iZ Mfp), .int (iZ Mfs), .int (iZ Mse), .int (iZ Mlt), .ref Mo, .int (iZ Mdp), .int (iZ Mct), .ref Mk, .ref Ml, .ref Mb, .ref Mh, .ref Mc, .int (iZ Mdr), .int (iZ Mrs), .ref Mz, .ref Mr, .ref Mq, .int (iZ Mit), .int (iZ Mmk)]))]) (wr := [(Ma, .inl (k 1, 5340, .inl Af)), (Mk, .inl (k 1, 6, .inl Kf)), (Ml, .inl (k 1, 6, .inl Lf)), (Mb, .inl (k 1, 6, .inl Bf)), (Mh, .inl (k 1, 120, .inl Hf))]) hx hb hml hown hts hKK hP hD hS hA (m_refuse l D k hm Ma Mn Ms My Mt Mp Mx Mo Mk Ml Mb Mh Mc Mz Mr Mq Mst Mtd Msz Mtk Mfr Men Mva Mfk Mfp Mfs Mse Mlt Mdp Mct Mdr Mrs Mit Mmk Mtp Mbt 1) ci_X12_refuse qm_X12_81 ⟨Nat.le_of_ble_eq_true rfl, Nat.le_of_ble_eq_true rfl⟩ ⟨Nat.le_of_ble_eq_true rfl, Nat.le_of_ble_eq_true rfl⟩ [0] [1, 2, 3, 4, 5] rfl rfl rfl rfl rfl (by decide) 0 rfl rfl rfl hl.1 rfl (Nat.le_of_ble_eq_true rfl) dX12_confirmed_18 (fun u_51 H locs hφ hP hD hS => ?_)
    obtain ⟨I_52, L_53, F_54, G_55⟩ := u_51
    refine W.eq (g2 := F0 m 21 ls [.int (iZ (-1))]) rfl ?_
    exact EWi hx hb hr hlocks hS (fun i => [(-1), 1].getD i 0, fun i => [0].getD i 0, fun i => [Kf, Lf, Bf, Hf].getD i (fun _ => 0), fun i => [].getD i (fun _ => 0)) rfl (show rgI Hf 0 1000000 120 from rgH) (hP.sub [5, 0, 1, 2, 3, 4] rfl) (hD.sub [5, 0, 1, 2, 3, 4] rfl rfl) dX12_confirmed_21
set_option maxHeartbeats 4000000 in
set_option maxRecDepth 100000 in
theorem q_sure (l : Launch) (D : va_G) (k : Nat → ClassId) (hm : Nat) (Ma : Nat) (Mn : Nat) (Ms : Nat) (My : Nat) (Mt : Nat) (Mp : Nat) (Mx : Nat) (Mo : Nat) (Mk : Nat) (Ml : Nat) (Mb : Nat) (Mh : Nat) (Mc : Nat) (Mz : Nat) (Mr : Nat) (Mq : Nat) (Mst : Int) (Mtd : Int) (Msz : Int) (Mtk : Int) (Mfr : Int) (Men : Int) (Mva : Int) (Mfk : Int) (Mfp : Int) (Mfs : Int) (Mse : Int) (Mlt : Int) (Mdp : Int) (Mct : Int) (Mdr : Int) (Mrs : Int) (Mit : Int) (Mmk : Int) (Mtp : Int64) (Mbt : Int64) (Af : Nat → Int32) (Kf : Nat → Int32) (Lf : Nat → Int32) (Bf : Nat → Int32) (Hf : Nat → Int32) (x1 : Int) (x2 : Int) (x3 : Int) (hM : M0 Af) (rgH : rgI Hf 0 1000000 120) (h9x1 : -2147483648 ≤ x1 ∧ x1 < 2147483648) (h9x2 : -2147483648 ≤ x2 ∧ x2 < 2147483648) (h9x3 : -2147483648 ≤ x3 ∧ x3 < 2147483648) : WD (σ := ((Nat → Int) × (Nat → Int64) × (Nat → Nat → Int32) × (Nat → Nat → Int64))) l yX12_sure cX12_sure 4 (some .int) 7 0 0 D k [.ref hm, .int (iZ x1), .int (iZ x2), .int (iZ x3)] [(hm, .inr (12, [.ref Ma, .ref Mn, .int (iZ Mst), .long Mtp, .long Mbt, .ref Ms, .ref My, .ref Mt, .ref Mp, .ref Mx, .int (iZ Mtd), .int (iZ Msz), .int (iZ Mtk), .int (iZ Mfr), .int (iZ Men), .int (iZ Mva), .int (iZ Mfk), .int (iZ Mfp), .int (iZ Mfs), .int (iZ Mse), .int (iZ Mlt), .ref Mo, .int (iZ Mdp), .int (iZ Mct), .ref Mk, .ref Ml, .ref Mb, .ref Mh, .ref Mc, .int (iZ Mdr), .int (iZ Mrs), .ref Mz, .ref Mr, .ref Mq, .int (iZ Mit), .int (iZ Mmk)])), (Ma, .inl (k 1, 5340, .inl Af)), (Mk, .inl (k 1, 6, .inl Kf)), (Ml, .inl (k 1, 6, .inl Lf)), (Mb, .inl (k 1, 6, .inl Bf)), (Mh, .inl (k 1, 120, .inl Hf))] (fun u => some (.int (iZ (u.1 0)))) (fun u => rgI (u.2.2.1 3) 0 1000000 120) (fun u => [(hm, .inr (12, [.ref Ma, .ref Mn, .int (iZ (u.1 1)), .long Mtp, .long Mbt, .ref Ms, .ref My, .ref Mt, .ref Mp, .ref Mx, .int (iZ Mtd), .int (iZ Msz), .int (iZ Mtk), .int (iZ Mfr), .int (iZ Men), .int (iZ Mva), .int (iZ Mfk), .int (iZ Mfp), .int (iZ Mfs), .int (iZ Mse), .int (iZ Mlt), .ref Mo, .int (iZ Mdp), .int (iZ Mct), .ref Mk, .ref Ml, .ref Mb, .ref Mh, .ref Mc, .int (iZ Mdr), .int (iZ Mrs), .ref Mz, .ref Mr, .ref Mq, .int (iZ Mit), .int (iZ Mmk)])), (Ma, .inl (k 1, 5340, .inl Af)), (Mk, .inl (k 1, 6, .inl (u.2.2.1 0))), (Ml, .inl (k 1, 6, .inl (u.2.2.1 1))), (Mb, .inl (k 1, 6, .inl (u.2.2.1 2))), (Mh, .inl (k 1, 120, .inl (u.2.2.1 3)))]) := by
  refine MW (by decide) (Nat.le_of_ble_eq_true rfl) (fun p e s m below meth c ls A hx hb hml hr hlocks hin hts hown hKK hP hD hS hA hl => ?_)
  have hK := hKK.1
  have hl : lv_has ls 4 [(0, .ref hm), (1, .int (iZ x1)), (2, .int (iZ x2)), (3, .int (iZ x3))] := hl
  obtain ⟨m0, m1, m3, m4, m5, mF, mO, mS⟩ := id hM
  refine lv_aload_n hx hb dX12_sure_0 rfl (lv_at hl 0 rfl) ?_
  refine lv_iload_n hx hb dX12_sure_1 rfl (lv_at hl 1 rfl) ?_
  refine CPV (As := [.int (iZ x1)]) (rest := []) hx hb hml hown hts hKK (hP.sub (ws' := [(hm, .inr (12, [.ref Ma, .ref Mn, .int (iZ Mst), .long Mtp, .long Mbt, .ref Ms, .ref My, .ref Mt, .ref Mp, .ref Mx, .int (iZ Mtd), .int (iZ Msz), .int (iZ Mtk), .int (iZ Mfr), .int (iZ Men), .int (iZ Mva), .int (iZ Mfk), .int (iZ Mfp), .int (iZ Mfs), .int (iZ Mse), .int (iZ Mlt), .ref Mo, .int (iZ Mdp), .int (iZ Mct), .ref Mk, .ref Ml, .ref Mb, .ref Mh, .ref Mc, .int (iZ Mdr), .int (iZ Mrs), .ref Mz, .ref Mr, .ref Mq, .int (iZ Mit), .int (iZ Mmk)])), (Ma, .inl (k 1, 5340, .inl Af))]) [0, 1] rfl) (m_isOrder l D k ([.ref Ma, .ref Mn, .int (iZ Mst), .long Mtp, .long Mbt, .ref Ms, .ref My, .ref Mt, .ref Mp, .ref Mx, .int (iZ Mtd), .int (iZ Msz), .int (iZ Mtk), .int (iZ Mfr), .int (iZ Men), .int (iZ Mva), .int (iZ Mfk), .int (iZ Mfp), .int (iZ Mfs), .int (iZ Mse), .int (iZ Mlt), .ref Mo, .int (iZ Mdp), .int (iZ Mct), .ref Mk, .ref Ml, .ref Mb, .ref Mh, .ref Mc, .int (iZ Mdr), .int (iZ Mrs), .ref Mz, .ref Mr, .ref Mq, .int (iZ Mit), .int (iZ Mmk)]) hm Ma Af x1 rfl hM ⟨by omega, by omega⟩) ci_X12_isOrder qm_X12_324 ⟨Nat.le_of_ble_eq_true rfl, Nat.le_of_ble_eq_true rfl⟩ ⟨Nat.le_of_ble_eq_true rfl, Nat.le_of_ble_eq_true rfl⟩ 0 rfl rfl rfl hl.1 rfl (Nat.le_of_ble_eq_true rfl) dX12_sure_2 (fun z_1 hz_1 => ?_)
  rcases hz_1 with ⟨qz_1, hz_1⟩ | ⟨qz_1, hz_1⟩
  ·
    subst qz_1
    refine lv_if_eq (tgt := 17) hx hb dX12_sure_5 (by decide) (fun c => absurd c (by decide)) (fun _ => ?_)
    refine lv_aload_n hx hb dX12_sure_8 rfl (lv_at hl 0 rfl) ?_
    refine lv_iload_n hx hb dX12_sure_9 rfl (lv_at hl 2 rfl) ?_
    refine lv_iload_n hx hb dX12_sure_10 rfl (lv_at hl 3 rfl) ?_
    refine CPV (As := [.int (iZ x2), .int (iZ x3)]) (rest := []) hx hb hml hown hts hKK (hP.sub (ws' := [(hm, .inr (12, [.ref Ma, .ref Mn, .int (iZ Mst), .long Mtp, .long Mbt, .ref Ms, .ref My, .ref Mt, .ref Mp, .ref Mx, .int (iZ Mtd), .int (iZ Msz), .int (iZ Mtk), .int (iZ Mfr), .int (iZ Men), .int (iZ Mva), .int (iZ Mfk), .int (iZ Mfp), .int (iZ Mfs), .int (iZ Mse), .int (iZ Mlt), .ref Mo, .int (iZ Mdp), .int (iZ Mct), .ref Mk, .ref Ml, .ref Mb, .ref Mh, .ref Mc, .int (iZ Mdr), .int (iZ Mrs), .ref Mz, .ref Mr, .ref Mq, .int (iZ Mit), .int (iZ Mmk)])), (Ma, .inl (k 1, 5340, .inl Af))]) [0, 1] rfl) (m_areTwo l D k ([.ref Ma, .ref Mn, .int (iZ Mst), .long Mtp, .long Mbt, .ref Ms, .ref My, .ref Mt, .ref Mp, .ref Mx, .int (iZ Mtd), .int (iZ Msz), .int (iZ Mtk), .int (iZ Mfr), .int (iZ Men), .int (iZ Mva), .int (iZ Mfk), .int (iZ Mfp), .int (iZ Mfs), .int (iZ Mse), .int (iZ Mlt), .ref Mo, .int (iZ Mdp), .int (iZ Mct), .ref Mk, .ref Ml, .ref Mb, .ref Mh, .ref Mc, .int (iZ Mdr), .int (iZ Mrs), .ref Mz, .ref Mr, .ref Mq, .int (iZ Mit), .int (iZ Mmk)]) hm Ma Af x2 x3 rfl hM ⟨by omega, by omega⟩ ⟨by omega, by omega⟩) ci_X12_areTwo qm_X12_265 ⟨Nat.le_of_ble_eq_true rfl, Nat.le_of_ble_eq_true rfl⟩ ⟨Nat.le_of_ble_eq_true rfl, Nat.le_of_ble_eq_true rfl⟩ 0 rfl rfl rfl hl.1 rfl (Nat.le_of_ble_eq_true rfl) dX12_sure_11 (fun z_3 hz_3 => ?_)
    rcases hz_3 with ⟨qz_3, hz_3⟩ | ⟨qz_3, hz_3⟩
    ·
      subst qz_3
      refine lv_if_ne (tgt := 23) hx hb dX12_sure_14 (by decide) (fun _ => ?_) (fun c => absurd c (by decide))
      have hodx := mO x1 (by omega) (by omega)
      refine lv_aload_n hx hb dX12_sure_23 rfl (lv_at hl 0 rfl) ?_
      refine lv_iload_n hx hb dX12_sure_24 rfl (lv_at hl 1 rfl) ?_
      refine CWV (As := [.int (iZ x1)]) (rest := []) (wc := [(hm, .inr (12, [.ref Ma, .ref Mn, .int (iZ Mst), .long Mtp, .long Mbt, .ref Ms, .ref My, .ref Mt, .ref Mp, .ref Mx, .int (iZ Mtd), .int (iZ Msz), .int (iZ Mtk), .int (iZ Mfr), .int (iZ Men), .int (iZ Mva), .int (iZ Mfk), .int (iZ Mfp), .int (iZ Mfs), .int (iZ Mse), .int (iZ Mlt), .ref Mo, .int (iZ Mdp), .int (iZ Mct), .ref Mk, .ref Ml, .ref Mb, .ref Mh, .ref Mc, .int (iZ Mdr), .int (iZ Mrs), .ref Mz, .ref Mr, .ref Mq, .int (iZ Mit), .int (iZ Mmk)])), (Ma, .inl (k 1, 5340, .inl Af)), (Mk, .inl (k 1, 6, .inl Kf)), (Ml, .inl (k 1, 6, .inl Lf)), (Mb, .inl (k 1, 6, .inl Bf)), (Mh, .inl (k 1, 120, .inl Hf))]) (wr := []) hx hb hml hown hts hKK hP hD hS hA (m_laysOrder l D k hm Ma Mn Ms My Mt Mp Mx Mo Mk Ml Mb Mh Mc Mz Mr Mq Mst Mtd Msz Mtk Mfr Men Mva Mfk Mfp Mfs Mse Mlt Mdp Mct Mdr Mrs Mit Mmk Mtp Mbt Af Kf Lf Bf Hf x1 hM ⟨by omega, by omega⟩ rgH) ci_X12_laysOrder qm_X12_318 ⟨Nat.le_of_ble_eq_true rfl, Nat.le_of_ble_eq_true rfl⟩ ⟨Nat.le_of_ble_eq_true rfl, Nat.le_of_ble_eq_true rfl⟩ [0, 1, 2, 3, 4, 5] [] rfl rfl rfl rfl rfl (by decide) 0 rfl rfl rfl hl.1 rfl (Nat.le_of_ble_eq_true rfl) dX12_sure_25 (fun u_5 H locs hφ hP hD hS => ?_)
      obtain ⟨I_6, L_7, F_8, G_9⟩ := u_5
      obtain ⟨p_11, p_12, p_13⟩ : (KR (F_8 0) 6) ∧ (rgI (F_8 1) (-1) 5 6) ∧ (rgI (F_8 3) 0 1000000 120) := hφ
      refine W.eq (g2 := F0 m 28 ls []) rfl ?_
      refine lv_aload_n hx hb dX12_sure_28 rfl (lv_at hl 0 rfl) ?_
      refine lv_aload_n hx hb dX12_sure_29 rfl (lv_at hl 0 rfl) ?_
      refine va_get (D := D) (ci := 12) (v := .ref Mk) (C := RX12) (T := TX12) (N := 36) hx hb hts iX12 hown hK hP 0 rfl rfl 24 (by decide) (hts _ qf_X12_47) (fun _ h => h) rfl dX12_sure_30 ?_
      refine lv_iload_n hx hb dX12_sure_33 rfl (lv_at hl 2 rfl) ?_
      refine va_iald hx hb hK hP 2 1 rfl rfl (zin (e := x2) (n := 6) ⟨by omega, by omega⟩ (by decide)) dX12_sure_34 ?_
      refine lv_topi (fun x_14 ex_14 => ?_)
      obtain rfl : x_14 = iZ (gz (F_8 0) x2) := ex_14.trans (gz_eq ⟨by omega, by omega⟩)
      have h_15 := p_11 x2 (by omega) (by omega)
      refine lv_ldc (own := RX12) (v := 1000000) hx hb hown (hts _ qk_X12_88) dX12_sure_35 ?_
      refine W.eq (g2 := F0 m 37 ls [.int (iZ 1000000), .int (iZ (gz (F_8 0) x2)), .ref hm]) rfl ?_
      refine lv_icmp_ne (tgt := 45) hx hb dX12_sure_37 (by decide) (fun c_16 => ?_) (fun c_16 => ?_)
      ·
        have c_16 := mt (zeq (x := iZ (gz (F_8 0) x2)) (y := iZ 1000000) rfl rfl ⟨by omega, by omega⟩ ⟨by omega, by omega⟩).mpr c_16
        refine lv_aload_n hx hb dX12_sure_45 rfl (lv_at hl 0 rfl) ?_
        refine lv_iload_n hx hb dX12_sure_46 rfl (lv_at hl 2 rfl) ?_
        refine lv_aload_n hx hb dX12_sure_47 rfl (lv_at hl 0 rfl) ?_
        refine va_get (D := D) (ci := 12) (v := .ref Mk) (C := RX12) (T := TX12) (N := 36) hx hb hts iX12 hown hK hP 0 rfl rfl 24 (by decide) (hts _ qf_X12_47) (fun _ h => h) rfl dX12_sure_48 ?_
        refine lv_iload_n hx hb dX12_sure_51 rfl (lv_at hl 2 rfl) ?_
        refine va_iald hx hb hK hP 2 1 rfl rfl (zin (e := x2) (n := 6) ⟨by omega, by omega⟩ (by decide)) dX12_sure_52 ?_
        refine lv_topi (fun x_17 ex_17 => ?_)
        obtain rfl : x_17 = iZ (gz (F_8 0) x2) := ex_17.trans (gz_eq ⟨by omega, by omega⟩)
        have h_18 := p_11 x2 (by omega) (by omega)
        refine lv_iload_n hx hb dX12_sure_53 rfl (lv_at hl 3 rfl) ?_
        refine CPV (As := [.int (iZ x2), .int (iZ (gz (F_8 0) x2)), .int (iZ x3)]) (rest := [.ref hm]) hx hb hml hown hts hKK (hP.sub (ws' := [(hm, .inr (12, [.ref Ma, .ref Mn, .int (iZ Mst), .long Mtp, .long Mbt, .ref Ms, .ref My, .ref Mt, .ref Mp, .ref Mx, .int (iZ Mtd), .int (iZ Msz), .int (iZ Mtk), .int (iZ Mfr), .int (iZ Men), .int (iZ Mva), .int (iZ Mfk), .int (iZ Mfp), .int (iZ Mfs), .int (iZ Mse), .int (iZ Mlt), .ref Mo, .int (iZ Mdp), .int (iZ Mct), .ref Mk, .ref Ml, .ref Mb, .ref Mh, .ref Mc, .int (iZ Mdr), .int (iZ Mrs), .ref Mz, .ref Mr, .ref Mq, .int (iZ Mit), .int (iZ Mmk)])), (Ma, .inl (k 1, 5340, .inl Af))]) [0, 1] rfl) (m_arrival l D k ([.ref Ma, .ref Mn, .int (iZ Mst), .long Mtp, .long Mbt, .ref Ms, .ref My, .ref Mt, .ref Mp, .ref Mx, .int (iZ Mtd), .int (iZ Msz), .int (iZ Mtk), .int (iZ Mfr), .int (iZ Men), .int (iZ Mva), .int (iZ Mfk), .int (iZ Mfp), .int (iZ Mfs), .int (iZ Mse), .int (iZ Mlt), .ref Mo, .int (iZ Mdp), .int (iZ Mct), .ref Mk, .ref Ml, .ref Mb, .ref Mh, .ref Mc, .int (iZ Mdr), .int (iZ Mrs), .ref Mz, .ref Mr, .ref Mq, .int (iZ Mit), .int (iZ Mmk)]) hm Ma Af x2 (gz (F_8 0) x2) x3 rfl hM ⟨by omega, by omega⟩ ⟨by omega, by omega⟩ ⟨by omega, by omega⟩) ci_X12_arrival qm_X12_280 ⟨Nat.le_of_ble_eq_true rfl, Nat.le_of_ble_eq_true rfl⟩ ⟨Nat.le_of_ble_eq_true rfl, Nat.le_of_ble_eq_true rfl⟩ 0 rfl rfl rfl hl.1 rfl (Nat.le_of_ble_eq_true rfl) dX12_sure_54 (fun z_19 hz_19 => ?_)
        obtain ⟨ez_19, az_19⟩ := hz_19
        refine CWV (As := [.int (iZ z_19)]) (rest := []) (wc := [(hm, .inr (12, [.ref Ma, .ref Mn, .int (iZ Mst), .long Mtp, .long Mbt, .ref Ms, .ref My, .ref Mt, .ref Mp, .ref Mx, .int (iZ Mtd), .int (iZ Msz), .int (iZ Mtk), .int (iZ Mfr), .int (iZ Men), .int (iZ Mva), .int (iZ Mfk), .int (iZ Mfp), .int (iZ Mfs), .int (iZ Mse), .int (iZ Mlt), .ref Mo, .int (iZ Mdp), .int (iZ Mct), .ref Mk, .ref Ml, .ref Mb, .ref Mh, .ref Mc, .int (iZ Mdr), .int (iZ Mrs), .ref Mz, .ref Mr, .ref Mq, .int (iZ Mit), .int (iZ Mmk)]))]) (wr := [(Ma, .inl (k 1, 5340, .inl Af)), (Mk, .inl (k 1, 6, .inl (F_8 0))), (Ml, .inl (k 1, 6, .inl (F_8 1))), (Mb, .inl (k 1, 6, .inl (F_8 2))), (Mh, .inl (k 1, 120, .inl (F_8 3)))]) hx hb hml hown hts hKK hP hD hS hA (m_orNever l D k hm Ma Mn Ms My Mt Mp Mx Mo Mk Ml Mb Mh Mc Mz Mr Mq Mst Mtd Msz Mtk Mfr Men Mva Mfk Mfp Mfs Mse Mlt Mdp Mct Mdr Mrs Mit Mmk Mtp Mbt z_19 ⟨by omega, by omega⟩) ci_X12_orNever qm_X12_284 ⟨Nat.le_of_ble_eq_true rfl, Nat.le_of_ble_eq_true rfl⟩ ⟨Nat.le_of_ble_eq_true rfl, Nat.le_of_ble_eq_true rfl⟩ [0] [1, 2, 3, 4, 5] rfl rfl rfl rfl rfl (by decide) 0 rfl rfl rfl hl.1 rfl (Nat.le_of_ble_eq_true rfl) dX12_sure_57 (fun u_20 H locs hφ hP hD hS => ?_)
        obtain ⟨I_21, L_22, F_23, G_24⟩ := u_20
        have p_26 : ((z_19 : Int) ≥ 1000000 ∧ (I_21 0) = -1 ∧ (I_21 1) = 6) ∨ ((z_19 : Int) < 1000000 ∧ (I_21 0) = z_19 ∧ (I_21 1) = 0) := hφ
        refine W.eq (g2 := F0 m 60 ls [.int (iZ (I_21 0))]) rfl ?_
        exact EWi hx hb hr hlocks hS (fun i => [(I_21 0), (I_21 1)].getD i 0, fun i => [0].getD i 0, fun i => [(F_8 0), (F_8 1), (F_8 2), (F_8 3)].getD i (fun _ => 0), fun i => [].getD i (fun _ => 0)) rfl (show rgI (F_8 3) 0 1000000 120 from p_13) (hP.sub [5, 0, 1, 2, 3, 4] rfl) (hD.sub [5, 0, 1, 2, 3, 4] rfl rfl) dX12_sure_60
      ·
        have c_16 := (zeq (x := iZ (gz (F_8 0) x2)) (y := iZ 1000000) rfl rfl ⟨by omega, by omega⟩ ⟨by omega, by omega⟩).mp c_16
        refine lv_ldc (own := RX12) (v := 1000000) hx hb hown (hts _ qk_X12_88) dX12_sure_40 ?_
        refine W.eq (g2 := F0 m 42 ls [.int (iZ 1000000), .ref hm]) rfl ?_
        refine lv_goto (tgt := 57) hx hb dX12_sure_42 (by decide) ?_
        refine CWV (As := [.int (iZ 1000000)]) (rest := []) (wc := [(hm, .inr (12, [.ref Ma, .ref Mn, .int (iZ Mst), .long Mtp, .long Mbt, .ref Ms, .ref My, .ref Mt, .ref Mp, .ref Mx, .int (iZ Mtd), .int (iZ Msz), .int (iZ Mtk), .int (iZ Mfr), .int (iZ Men), .int (iZ Mva), .int (iZ Mfk), .int (iZ Mfp), .int (iZ Mfs), .int (iZ Mse), .int (iZ Mlt), .ref Mo, .int (iZ Mdp), .int (iZ Mct), .ref Mk, .ref Ml, .ref Mb, .ref Mh, .ref Mc, .int (iZ Mdr), .int (iZ Mrs), .ref Mz, .ref Mr, .ref Mq, .int (iZ Mit), .int (iZ Mmk)]))]) (wr := [(Ma, .inl (k 1, 5340, .inl Af)), (Mk, .inl (k 1, 6, .inl (F_8 0))), (Ml, .inl (k 1, 6, .inl (F_8 1))), (Mb, .inl (k 1, 6, .inl (F_8 2))), (Mh, .inl (k 1, 120, .inl (F_8 3)))]) hx hb hml hown hts hKK hP hD hS hA (m_orNever l D k hm Ma Mn Ms My Mt Mp Mx Mo Mk Ml Mb Mh Mc Mz Mr Mq Mst Mtd Msz Mtk Mfr Men Mva Mfk Mfp Mfs Mse Mlt Mdp Mct Mdr Mrs Mit Mmk Mtp Mbt 1000000 ⟨by omega, by omega⟩) ci_X12_orNever qm_X12_284 ⟨Nat.le_of_ble_eq_true rfl, Nat.le_of_ble_eq_true rfl⟩ ⟨Nat.le_of_ble_eq_true rfl, Nat.le_of_ble_eq_true rfl⟩ [0] [1, 2, 3, 4, 5] rfl rfl rfl rfl rfl (by decide) 0 rfl rfl rfl hl.1 rfl (Nat.le_of_ble_eq_true rfl) dX12_sure_57 (fun u_27 H locs hφ hP hD hS => ?_)
        obtain ⟨I_28, L_29, F_30, G_31⟩ := u_27
        have p_33 : ((1000000 : Int) ≥ 1000000 ∧ (I_28 0) = -1 ∧ (I_28 1) = 6) ∨ ((1000000 : Int) < 1000000 ∧ (I_28 0) = 1000000 ∧ (I_28 1) = 0) := hφ
        refine W.eq (g2 := F0 m 60 ls [.int (iZ (I_28 0))]) rfl ?_
        exact EWi hx hb hr hlocks hS (fun i => [(I_28 0), (I_28 1)].getD i 0, fun i => [0].getD i 0, fun i => [(F_8 0), (F_8 1), (F_8 2), (F_8 3)].getD i (fun _ => 0), fun i => [].getD i (fun _ => 0)) rfl (show rgI (F_8 3) 0 1000000 120 from p_13) (hP.sub [5, 0, 1, 2, 3, 4] rfl) (hD.sub [5, 0, 1, 2, 3, 4] rfl rfl) dX12_sure_60
    ·
      subst qz_3
      refine lv_if_ne (tgt := 23) hx hb dX12_sure_14 (by decide) (fun c => absurd (by decide) c) (fun _ => ?_)
      refine lv_aload_n hx hb dX12_sure_17 rfl (lv_at hl 0 rfl) ?_
      refine lv_iconst (v := iZ 1) hx hb dX12_sure_18 (by decide) ?_
      refine CWV (As := [.int (iZ 1)]) (rest := []) (wc := [(hm, .inr (12, [.ref Ma, .ref Mn, .int (iZ Mst), .long Mtp, .long Mbt, .ref Ms, .ref My, .ref Mt, .ref Mp, .ref Mx, .int (iZ Mtd), .int (iZ Msz), .int (iZ Mtk), .int (iZ Mfr), .int (iZ Men), .int (iZ Mva), .int (iZ Mfk), .int (iZ Mfp), .int (iZ Mfs), .int (iZ Mse), .int (iZ Mlt), .ref Mo, .int (iZ Mdp), .int (iZ Mct), .ref Mk, .ref Ml, .ref Mb, .ref Mh, .ref Mc, .int (iZ Mdr), .int (iZ Mrs), .ref Mz, .ref Mr, .ref Mq, .int (iZ Mit), .int (iZ Mmk)]))]) (wr := [(Ma, .inl (k 1, 5340, .inl Af)), (Mk, .inl (k 1, 6, .inl Kf)), (Ml, .inl (k 1, 6, .inl Lf)), (Mb, .inl (k 1, 6, .inl Bf)), (Mh, .inl (k 1, 120, .inl Hf))]) hx hb hml hown hts hKK hP hD hS hA (m_refuse l D k hm Ma Mn Ms My Mt Mp Mx Mo Mk Ml Mb Mh Mc Mz Mr Mq Mst Mtd Msz Mtk Mfr Men Mva Mfk Mfp Mfs Mse Mlt Mdp Mct Mdr Mrs Mit Mmk Mtp Mbt 1) ci_X12_refuse qm_X12_81 ⟨Nat.le_of_ble_eq_true rfl, Nat.le_of_ble_eq_true rfl⟩ ⟨Nat.le_of_ble_eq_true rfl, Nat.le_of_ble_eq_true rfl⟩ [0] [1, 2, 3, 4, 5] rfl rfl rfl rfl rfl (by decide) 0 rfl rfl rfl hl.1 rfl (Nat.le_of_ble_eq_true rfl) dX12_sure_19 (fun u_35 H locs hφ hP hD hS => ?_)
      obtain ⟨I_36, L_37, F_38, G_39⟩ := u_35
      refine W.eq (g2 := F0 m 22 ls [.int (iZ (-1))]) rfl ?_
      exact EWi hx hb hr hlocks hS (fun i => [(-1), 1].getD i 0, fun i => [0].getD i 0, fun i => [Kf, Lf, Bf, Hf].getD i (fun _ => 0), fun i => [].getD i (fun _ => 0)) rfl (show rgI Hf 0 1000000 120 from rgH) (hP.sub [5, 0, 1, 2, 3, 4] rfl) (hD.sub [5, 0, 1, 2, 3, 4] rfl rfl) dX12_sure_22
  ·
    subst qz_1
    refine lv_if_eq (tgt := 17) hx hb dX12_sure_5 (by decide) (fun _ => ?_) (fun c => absurd (by decide) c)
    refine lv_aload_n hx hb dX12_sure_17 rfl (lv_at hl 0 rfl) ?_
    refine lv_iconst (v := iZ 1) hx hb dX12_sure_18 (by decide) ?_
    refine CWV (As := [.int (iZ 1)]) (rest := []) (wc := [(hm, .inr (12, [.ref Ma, .ref Mn, .int (iZ Mst), .long Mtp, .long Mbt, .ref Ms, .ref My, .ref Mt, .ref Mp, .ref Mx, .int (iZ Mtd), .int (iZ Msz), .int (iZ Mtk), .int (iZ Mfr), .int (iZ Men), .int (iZ Mva), .int (iZ Mfk), .int (iZ Mfp), .int (iZ Mfs), .int (iZ Mse), .int (iZ Mlt), .ref Mo, .int (iZ Mdp), .int (iZ Mct), .ref Mk, .ref Ml, .ref Mb, .ref Mh, .ref Mc, .int (iZ Mdr), .int (iZ Mrs), .ref Mz, .ref Mr, .ref Mq, .int (iZ Mit), .int (iZ Mmk)]))]) (wr := [(Ma, .inl (k 1, 5340, .inl Af)), (Mk, .inl (k 1, 6, .inl Kf)), (Ml, .inl (k 1, 6, .inl Lf)), (Mb, .inl (k 1, 6, .inl Bf)), (Mh, .inl (k 1, 120, .inl Hf))]) hx hb hml hown hts hKK hP hD hS hA (m_refuse l D k hm Ma Mn Ms My Mt Mp Mx Mo Mk Ml Mb Mh Mc Mz Mr Mq Mst Mtd Msz Mtk Mfr Men Mva Mfk Mfp Mfs Mse Mlt Mdp Mct Mdr Mrs Mit Mmk Mtp Mbt 1) ci_X12_refuse qm_X12_81 ⟨Nat.le_of_ble_eq_true rfl, Nat.le_of_ble_eq_true rfl⟩ ⟨Nat.le_of_ble_eq_true rfl, Nat.le_of_ble_eq_true rfl⟩ [0] [1, 2, 3, 4, 5] rfl rfl rfl rfl rfl (by decide) 0 rfl rfl rfl hl.1 rfl (Nat.le_of_ble_eq_true rfl) dX12_sure_19 (fun u_42 H locs hφ hP hD hS => ?_)
    obtain ⟨I_43, L_44, F_45, G_46⟩ := u_42
    refine W.eq (g2 := F0 m 22 ls [.int (iZ (-1))]) rfl ?_
    exact EWi hx hb hr hlocks hS (fun i => [(-1), 1].getD i 0, fun i => [0].getD i 0, fun i => [Kf, Lf, Bf, Hf].getD i (fun _ => 0), fun i => [].getD i (fun _ => 0)) rfl (show rgI Hf 0 1000000 120 from rgH) (hP.sub [5, 0, 1, 2, 3, 4] rfl) (hD.sub [5, 0, 1, 2, 3, 4] rfl rfl) dX12_sure_22
set_option maxHeartbeats 4000000 in
set_option maxRecDepth 100000 in
theorem q_given (l : Launch) (D : va_G) (k : Nat → ClassId) (hm : Nat) (Ma : Nat) (Mn : Nat) (Ms : Nat) (My : Nat) (Mt : Nat) (Mp : Nat) (Mx : Nat) (Mo : Nat) (Mk : Nat) (Ml : Nat) (Mb : Nat) (Mh : Nat) (Mc : Nat) (Mz : Nat) (Mr : Nat) (Mq : Nat) (Mst : Int) (Mtd : Int) (Msz : Int) (Mtk : Int) (Mfr : Int) (Men : Int) (Mva : Int) (Mfk : Int) (Mfp : Int) (Mfs : Int) (Mse : Int) (Mlt : Int) (Mdp : Int) (Mct : Int) (Mdr : Int) (Mrs : Int) (Mit : Int) (Mmk : Int) (Mtp : Int64) (Mbt : Int64) (Af : Nat → Int32) (x1 : Int) (x2 : Int) (hM : M0 Af) (h9x1 : -2147483648 ≤ x1 ∧ x1 < 2147483648) (h9x2 : -2147483648 ≤ x2 ∧ x2 < 2147483648) : WD (σ := ((Nat → Int) × (Nat → Int64) × (Nat → Nat → Int32) × (Nat → Nat → Int64))) l yX12_given cX12_given 3 (some .int) 1 0 0 D k [.ref hm, .int (iZ x1), .int (iZ x2)] [(hm, .inr (12, [.ref Ma, .ref Mn, .int (iZ Mst), .long Mtp, .long Mbt, .ref Ms, .ref My, .ref Mt, .ref Mp, .ref Mx, .int (iZ Mtd), .int (iZ Msz), .int (iZ Mtk), .int (iZ Mfr), .int (iZ Men), .int (iZ Mva), .int (iZ Mfk), .int (iZ Mfp), .int (iZ Mfs), .int (iZ Mse), .int (iZ Mlt), .ref Mo, .int (iZ Mdp), .int (iZ Mct), .ref Mk, .ref Ml, .ref Mb, .ref Mh, .ref Mc, .int (iZ Mdr), .int (iZ Mrs), .ref Mz, .ref Mr, .ref Mq, .int (iZ Mit), .int (iZ Mmk)])), (Ma, .inl (k 1, 5340, .inl Af))] (fun u => some (.int (iZ (u.1 0)))) (fun _ => True) (fun u => [(hm, .inr (12, [.ref Ma, .ref Mn, .int (iZ (u.1 1)), .long Mtp, .long Mbt, .ref Ms, .ref My, .ref Mt, .ref Mp, .ref Mx, .int (iZ Mtd), .int (iZ Msz), .int (iZ Mtk), .int (iZ Mfr), .int (iZ Men), .int (iZ Mva), .int (iZ Mfk), .int (iZ Mfp), .int (iZ Mfs), .int (iZ Mse), .int (iZ Mlt), .ref Mo, .int (iZ Mdp), .int (iZ Mct), .ref Mk, .ref Ml, .ref Mb, .ref Mh, .ref Mc, .int (iZ Mdr), .int (iZ Mrs), .ref Mz, .ref Mr, .ref Mq, .int (iZ Mit), .int (iZ Mmk)])), (Ma, .inl (k 1, 5340, .inl Af))]) := by
  refine MW (by decide) (Nat.le_of_ble_eq_true rfl) (fun p e s m below meth c ls A hx hb hml hr hlocks hin hts hown hKK hP hD hS hA hl => ?_)
  have hK := hKK.1
  have hl : lv_has ls 3 [(0, .ref hm), (1, .int (iZ x1)), (2, .int (iZ x2))] := hl
  obtain ⟨m0, m1, m3, m4, m5, mF, mO, mS⟩ := id hM
  refine lv_aload_n hx hb dX12_given_0 rfl (lv_at hl 0 rfl) ?_
  refine lv_iload_n hx hb dX12_given_1 rfl (lv_at hl 1 rfl) ?_
  refine CPV (As := [.int (iZ x1)]) (rest := []) hx hb hml hown hts hKK hP (m_isOrder l D k ([.ref Ma, .ref Mn, .int (iZ Mst), .long Mtp, .long Mbt, .ref Ms, .ref My, .ref Mt, .ref Mp, .ref Mx, .int (iZ Mtd), .int (iZ Msz), .int (iZ Mtk), .int (iZ Mfr), .int (iZ Men), .int (iZ Mva), .int (iZ Mfk), .int (iZ Mfp), .int (iZ Mfs), .int (iZ Mse), .int (iZ Mlt), .ref Mo, .int (iZ Mdp), .int (iZ Mct), .ref Mk, .ref Ml, .ref Mb, .ref Mh, .ref Mc, .int (iZ Mdr), .int (iZ Mrs), .ref Mz, .ref Mr, .ref Mq, .int (iZ Mit), .int (iZ Mmk)]) hm Ma Af x1 rfl hM ⟨by omega, by omega⟩) ci_X12_isOrder qm_X12_324 ⟨Nat.le_of_ble_eq_true rfl, Nat.le_of_ble_eq_true rfl⟩ ⟨Nat.le_of_ble_eq_true rfl, Nat.le_of_ble_eq_true rfl⟩ 0 rfl rfl rfl hl.1 rfl (Nat.le_of_ble_eq_true rfl) dX12_given_2 (fun z_1 hz_1 => ?_)
  rcases hz_1 with ⟨qz_1, hz_1⟩ | ⟨qz_1, hz_1⟩
  ·
    subst qz_1
    refine lv_if_eq (tgt := 35) hx hb dX12_given_5 (by decide) (fun c => absurd c (by decide)) (fun _ => ?_)
    refine lv_iload_n hx hb dX12_given_8 rfl (lv_at hl 2 rfl) ?_
    refine lv_if_lt (tgt := 35) hx hb dX12_given_9 (by decide) (fun c_3 => ?_) (fun c_3 => ?_)
    ·
      have c_3 := (zlt (x := iZ x2) (y := iZ 0) rfl rfl ⟨by omega, by omega⟩ ⟨by omega, by omega⟩).mp c_3
      refine lv_aload_n hx hb dX12_given_35 rfl (lv_at hl 0 rfl) ?_
      refine lv_iconst (v := iZ 1) hx hb dX12_given_36 (by decide) ?_
      refine CWV (As := [.int (iZ 1)]) (rest := []) (wc := [(hm, .inr (12, [.ref Ma, .ref Mn, .int (iZ Mst), .long Mtp, .long Mbt, .ref Ms, .ref My, .ref Mt, .ref Mp, .ref Mx, .int (iZ Mtd), .int (iZ Msz), .int (iZ Mtk), .int (iZ Mfr), .int (iZ Men), .int (iZ Mva), .int (iZ Mfk), .int (iZ Mfp), .int (iZ Mfs), .int (iZ Mse), .int (iZ Mlt), .ref Mo, .int (iZ Mdp), .int (iZ Mct), .ref Mk, .ref Ml, .ref Mb, .ref Mh, .ref Mc, .int (iZ Mdr), .int (iZ Mrs), .ref Mz, .ref Mr, .ref Mq, .int (iZ Mit), .int (iZ Mmk)]))]) (wr := [(Ma, .inl (k 1, 5340, .inl Af))]) hx hb hml hown hts hKK hP hD hS hA (m_refuse l D k hm Ma Mn Ms My Mt Mp Mx Mo Mk Ml Mb Mh Mc Mz Mr Mq Mst Mtd Msz Mtk Mfr Men Mva Mfk Mfp Mfs Mse Mlt Mdp Mct Mdr Mrs Mit Mmk Mtp Mbt 1) ci_X12_refuse qm_X12_81 ⟨Nat.le_of_ble_eq_true rfl, Nat.le_of_ble_eq_true rfl⟩ ⟨Nat.le_of_ble_eq_true rfl, Nat.le_of_ble_eq_true rfl⟩ [0] [1] rfl rfl rfl rfl rfl (by decide) 0 rfl rfl rfl hl.1 rfl (Nat.le_of_ble_eq_true rfl) dX12_given_37 (fun u_4 H locs hφ hP hD hS => ?_)
      obtain ⟨I_5, L_6, F_7, G_8⟩ := u_4
      refine W.eq (g2 := F0 m 40 ls [.int (iZ (-1))]) rfl ?_
      exact EWi hx hb hr hlocks hS (fun i => [(-1), 1].getD i 0, fun i => [0].getD i 0, fun i => [].getD i (fun _ => 0), fun i => [].getD i (fun _ => 0)) rfl trivial (hP.sub [1, 0] rfl) (hD.sub [1, 0] rfl rfl) dX12_given_40
    ·
      have c_3 := mt (zlt (x := iZ x2) (y := iZ 0) rfl rfl ⟨by omega, by omega⟩ ⟨by omega, by omega⟩).mpr c_3
      refine lv_iload_n hx hb dX12_given_12 rfl (lv_at hl 2 rfl) ?_
      refine lv_iconst (v := iZ 1) hx hb dX12_given_13 (by decide) ?_
      refine lv_icmp_gt (tgt := 35) hx hb dX12_given_14 (by decide) (fun c_10 => ?_) (fun c_10 => ?_)
      ·
        have c_10 := (zlt (x := iZ 1) (y := iZ x2) rfl rfl ⟨by omega, by omega⟩ ⟨by omega, by omega⟩).mp c_10
        refine lv_aload_n hx hb dX12_given_35 rfl (lv_at hl 0 rfl) ?_
        refine lv_iconst (v := iZ 1) hx hb dX12_given_36 (by decide) ?_
        refine CWV (As := [.int (iZ 1)]) (rest := []) (wc := [(hm, .inr (12, [.ref Ma, .ref Mn, .int (iZ Mst), .long Mtp, .long Mbt, .ref Ms, .ref My, .ref Mt, .ref Mp, .ref Mx, .int (iZ Mtd), .int (iZ Msz), .int (iZ Mtk), .int (iZ Mfr), .int (iZ Men), .int (iZ Mva), .int (iZ Mfk), .int (iZ Mfp), .int (iZ Mfs), .int (iZ Mse), .int (iZ Mlt), .ref Mo, .int (iZ Mdp), .int (iZ Mct), .ref Mk, .ref Ml, .ref Mb, .ref Mh, .ref Mc, .int (iZ Mdr), .int (iZ Mrs), .ref Mz, .ref Mr, .ref Mq, .int (iZ Mit), .int (iZ Mmk)]))]) (wr := [(Ma, .inl (k 1, 5340, .inl Af))]) hx hb hml hown hts hKK hP hD hS hA (m_refuse l D k hm Ma Mn Ms My Mt Mp Mx Mo Mk Ml Mb Mh Mc Mz Mr Mq Mst Mtd Msz Mtk Mfr Men Mva Mfk Mfp Mfs Mse Mlt Mdp Mct Mdr Mrs Mit Mmk Mtp Mbt 1) ci_X12_refuse qm_X12_81 ⟨Nat.le_of_ble_eq_true rfl, Nat.le_of_ble_eq_true rfl⟩ ⟨Nat.le_of_ble_eq_true rfl, Nat.le_of_ble_eq_true rfl⟩ [0] [1] rfl rfl rfl rfl rfl (by decide) 0 rfl rfl rfl hl.1 rfl (Nat.le_of_ble_eq_true rfl) dX12_given_37 (fun u_11 H locs hφ hP hD hS => ?_)
        obtain ⟨I_12, L_13, F_14, G_15⟩ := u_11
        refine W.eq (g2 := F0 m 40 ls [.int (iZ (-1))]) rfl ?_
        exact EWi hx hb hr hlocks hS (fun i => [(-1), 1].getD i 0, fun i => [0].getD i 0, fun i => [].getD i (fun _ => 0), fun i => [].getD i (fun _ => 0)) rfl trivial (hP.sub [1, 0] rfl) (hD.sub [1, 0] rfl rfl) dX12_given_40
      ·
        have c_10 := mt (zlt (x := iZ 1) (y := iZ x2) rfl rfl ⟨by omega, by omega⟩ ⟨by omega, by omega⟩).mpr c_10
        refine lv_aload_n hx hb dX12_given_17 rfl (lv_at hl 0 rfl) ?_
        refine lv_aload_n hx hb dX12_given_18 rfl (lv_at hl 0 rfl) ?_
        refine va_get (D := D) (ci := 12) (v := .ref Ma) (C := RX12) (T := TX12) (N := 36) hx hb hts iX12 hown hK hP 0 rfl rfl 0 (by decide) (hts _ qf_X12_7) (fun _ h => h) rfl dX12_given_19 ?_
        refine lv_iload_n hx hb dX12_given_22 rfl (lv_at hl 1 rfl) ?_
        refine CRS (As := [.int (iZ x1)]) (rest := [.ref Ma, .ref hm]) hx hb hml hown hts hKK (hP.sub (ws' := []) [] rfl) (m_givenRow l D k x1) ci_X12_givenRow qm_X12_315 ⟨Nat.le_of_ble_eq_true rfl, Nat.le_of_ble_eq_true rfl⟩ ⟨Nat.le_of_ble_eq_true rfl, Nat.le_of_ble_eq_true rfl⟩ rfl hl.1 rfl (Nat.le_of_ble_eq_true rfl) dX12_given_23 ?_
        refine lv_iload_n hx hb dX12_given_26 rfl (lv_at hl 2 rfl) ?_
        refine lv_iadd hx hb dX12_given_27 ?_
        refine lv_topi (fun x_17 ex_17 => ?_)
        obtain rfl : x_17 = iZ ((78 + (2 * x1)) + x2) := ex_17.trans (iZ_add (78 + (2 * x1)) x2)
        refine va_iald hx hb hK hP 1 1 rfl rfl (zin (e := ((78 + (2 * x1)) + x2)) (n := 5340) ⟨by omega, by omega⟩ (by decide)) dX12_given_28 ?_
        refine lv_topi (fun x_18 ex_18 => ?_)
        obtain rfl : x_18 = iZ (gz Af ((78 + (2 * x1)) + x2)) := ex_18.trans (gz_eq ⟨by omega, by omega⟩)
        have h_19 := gz_rg Af ((78 + (2 * x1)) + x2)
        refine CWV (As := [.int (iZ (gz Af ((78 + (2 * x1)) + x2)))]) (rest := []) (wc := [(hm, .inr (12, [.ref Ma, .ref Mn, .int (iZ Mst), .long Mtp, .long Mbt, .ref Ms, .ref My, .ref Mt, .ref Mp, .ref Mx, .int (iZ Mtd), .int (iZ Msz), .int (iZ Mtk), .int (iZ Mfr), .int (iZ Men), .int (iZ Mva), .int (iZ Mfk), .int (iZ Mfp), .int (iZ Mfs), .int (iZ Mse), .int (iZ Mlt), .ref Mo, .int (iZ Mdp), .int (iZ Mct), .ref Mk, .ref Ml, .ref Mb, .ref Mh, .ref Mc, .int (iZ Mdr), .int (iZ Mrs), .ref Mz, .ref Mr, .ref Mq, .int (iZ Mit), .int (iZ Mmk)]))]) (wr := [(Ma, .inl (k 1, 5340, .inl Af))]) hx hb hml hown hts hKK hP hD hS hA (m_gives l D k hm Ma Mn Ms My Mt Mp Mx Mo Mk Ml Mb Mh Mc Mz Mr Mq Mst Mtd Msz Mtk Mfr Men Mva Mfk Mfp Mfs Mse Mlt Mdp Mct Mdr Mrs Mit Mmk Mtp Mbt (gz Af ((78 + (2 * x1)) + x2))) ci_X12_gives qm_X12_85 ⟨Nat.le_of_ble_eq_true rfl, Nat.le_of_ble_eq_true rfl⟩ ⟨Nat.le_of_ble_eq_true rfl, Nat.le_of_ble_eq_true rfl⟩ [0] [1] rfl rfl rfl rfl rfl (by decide) 0 rfl rfl rfl hl.1 rfl (Nat.le_of_ble_eq_true rfl) dX12_given_29 (fun u_20 H locs hφ hP hD hS => ?_)
        obtain ⟨I_21, L_22, F_23, G_24⟩ := u_20
        refine W.eq (g2 := F0 m 32 ls [.int (iZ (gz Af ((78 + (2 * x1)) + x2)))]) rfl ?_
        refine lv_goto (tgt := 40) hx hb dX12_given_32 (by decide) ?_
        exact EWi hx hb hr hlocks hS (fun i => [(gz Af ((78 + (2 * x1)) + x2)), 0].getD i 0, fun i => [0].getD i 0, fun i => [].getD i (fun _ => 0), fun i => [].getD i (fun _ => 0)) rfl trivial (hP.sub [1, 0] rfl) (hD.sub [1, 0] rfl rfl) dX12_given_40
  ·
    subst qz_1
    refine lv_if_eq (tgt := 35) hx hb dX12_given_5 (by decide) (fun _ => ?_) (fun c => absurd (by decide) c)
    refine lv_aload_n hx hb dX12_given_35 rfl (lv_at hl 0 rfl) ?_
    refine lv_iconst (v := iZ 1) hx hb dX12_given_36 (by decide) ?_
    refine CWV (As := [.int (iZ 1)]) (rest := []) (wc := [(hm, .inr (12, [.ref Ma, .ref Mn, .int (iZ Mst), .long Mtp, .long Mbt, .ref Ms, .ref My, .ref Mt, .ref Mp, .ref Mx, .int (iZ Mtd), .int (iZ Msz), .int (iZ Mtk), .int (iZ Mfr), .int (iZ Men), .int (iZ Mva), .int (iZ Mfk), .int (iZ Mfp), .int (iZ Mfs), .int (iZ Mse), .int (iZ Mlt), .ref Mo, .int (iZ Mdp), .int (iZ Mct), .ref Mk, .ref Ml, .ref Mb, .ref Mh, .ref Mc, .int (iZ Mdr), .int (iZ Mrs), .ref Mz, .ref Mr, .ref Mq, .int (iZ Mit), .int (iZ Mmk)]))]) (wr := [(Ma, .inl (k 1, 5340, .inl Af))]) hx hb hml hown hts hKK hP hD hS hA (m_refuse l D k hm Ma Mn Ms My Mt Mp Mx Mo Mk Ml Mb Mh Mc Mz Mr Mq Mst Mtd Msz Mtk Mfr Men Mva Mfk Mfp Mfs Mse Mlt Mdp Mct Mdr Mrs Mit Mmk Mtp Mbt 1) ci_X12_refuse qm_X12_81 ⟨Nat.le_of_ble_eq_true rfl, Nat.le_of_ble_eq_true rfl⟩ ⟨Nat.le_of_ble_eq_true rfl, Nat.le_of_ble_eq_true rfl⟩ [0] [1] rfl rfl rfl rfl rfl (by decide) 0 rfl rfl rfl hl.1 rfl (Nat.le_of_ble_eq_true rfl) dX12_given_37 (fun u_27 H locs hφ hP hD hS => ?_)
    obtain ⟨I_28, L_29, F_30, G_31⟩ := u_27
    refine W.eq (g2 := F0 m 40 ls [.int (iZ (-1))]) rfl ?_
    exact EWi hx hb hr hlocks hS (fun i => [(-1), 1].getD i 0, fun i => [0].getD i 0, fun i => [].getD i (fun _ => 0), fun i => [].getD i (fun _ => 0)) rfl trivial (hP.sub [1, 0] rfl) (hD.sub [1, 0] rfl rfl) dX12_given_40
