set_option maxHeartbeats 4000000 in
set_option maxRecDepth 100000 in
theorem q_live (l : Launch) (D : va_G) (k : Nat → ClassId) (hm : Nat) (Ma : Nat) (Mn : Nat) (Ms : Nat) (My : Nat) (Mt : Nat) (Mp : Nat) (Mx : Nat) (Mo : Nat) (Mk : Nat) (Ml : Nat) (Mb : Nat) (Mh : Nat) (Mc : Nat) (Mz : Nat) (Mr : Nat) (Mq : Nat) (Mst : Int) (Mtd : Int) (Msz : Int) (Mtk : Int) (Mfr : Int) (Men : Int) (Mva : Int) (Mfk : Int) (Mfp : Int) (Mfs : Int) (Mse : Int) (Mlt : Int) (Mdp : Int) (Mct : Int) (Mdr : Int) (Mrs : Int) (Mit : Int) (Mmk : Int) (Mtp : Int64) (Mbt : Int64) (Af : Nat → Int32) (Kf : Nat → Int32) (Lf : Nat → Int32) (Bf : Nat → Int32) (Hf : Nat → Int32) (Zf : Nat → Int32) (Rf : Nat → Int32) (Qf : Nat → Int32) (x1 : Int) (hM : M0 Af) (rgH : rgI Hf 0 1000000 120) (hdr : 0 ≤ Mdr ∧ Mdr ≤ 65535) (hit : Mit = 0 ∨ Mit = 1) (h9x1 : -2147483648 ≤ x1 ∧ x1 < 2147483648) : WD (σ := ((Nat → Int) × (Nat → Int64) × (Nat → Nat → Int32) × (Nat → Nat → Int64))) l yX12_live cX12_live 3 (some .int) 10 0 0 D k [.ref hm, .int (iZ x1)] [(hm, .inr (12, [.ref Ma, .ref Mn, .int (iZ Mst), .long Mtp, .long Mbt, .ref Ms, .ref My, .ref Mt, .ref Mp, .ref Mx, .int (iZ Mtd), .int (iZ Msz), .int (iZ Mtk), .int (iZ Mfr), .int (iZ Men), .int (iZ Mva), .int (iZ Mfk), .int (iZ Mfp), .int (iZ Mfs), .int (iZ Mse), .int (iZ Mlt), .ref Mo, .int (iZ Mdp), .int (iZ Mct), .ref Mk, .ref Ml, .ref Mb, .ref Mh, .ref Mc, .int (iZ Mdr), .int (iZ Mrs), .ref Mz, .ref Mr, .ref Mq, .int (iZ Mit), .int (iZ Mmk)])), (Ma, .inl (k 1, 5340, .inl Af)), (Mk, .inl (k 1, 6, .inl Kf)), (Ml, .inl (k 1, 6, .inl Lf)), (Mb, .inl (k 1, 6, .inl Bf)), (Mh, .inl (k 1, 120, .inl Hf)), (Mz, .inl (k 1, 80, .inl Zf)), (Mr, .inl (k 1, 5, .inl Rf)), (Mq, .inl (k 1, 5, .inl Qf))] (fun u => some (.int (iZ (u.1 0)))) (fun u => (M0 (u.2.2.1 1)) ∧ (FR (u.2.2.1 1) Af) ∧ (0 ≤ (u.1 3) ∧ (u.1 3) ≤ 65535) ∧ (rgI (u.2.2.1 5) 0 1000000 120) ∧ ((u.1 2) = 0 ∨ (u.1 2) = 1)) (fun u => [(hm, .inr (12, [.ref Ma, .ref Mn, .int (iZ (u.1 1)), .long Mtp, .long Mbt, .ref Ms, .ref My, .ref Mt, .ref Mp, .ref Mx, .int (iZ Mtd), .int (iZ Msz), .int (iZ Mtk), .int (iZ Mfr), .int (iZ Men), .int (iZ Mva), .int (iZ Mfk), .int (iZ Mfp), .int (iZ Mfs), .int (iZ Mse), .int (iZ Mlt), .ref Mo, .int (iZ Mdp), .int (iZ Mct), .ref Mk, .ref Ml, .ref Mb, .ref Mh, .ref Mc, .int (iZ (u.1 3)), .int (iZ (u.1 4)), .ref Mz, .ref Mr, .ref Mq, .int (iZ (u.1 2)), .int (iZ Mmk)])), (Ma, .inl (k 1, 5340, .inl (u.2.2.1 1))), (Mk, .inl (k 1, 6, .inl (u.2.2.1 2))), (Ml, .inl (k 1, 6, .inl (u.2.2.1 3))), (Mb, .inl (k 1, 6, .inl (u.2.2.1 4))), (Mh, .inl (k 1, 120, .inl (u.2.2.1 5))), (Mz, .inl (k 1, 80, .inl (u.2.2.1 6))), (Mr, .inl (k 1, 5, .inl (u.2.2.1 7))), (Mq, .inl (k 1, 5, .inl (u.2.2.1 0)))]) := by
  refine MW (by decide) (Nat.le_of_ble_eq_true rfl) (fun p e s m below meth c ls A hx hb hml hr hlocks hin hts hown hKK hP hD hS hA hl => ?_)
  have hK := hKK.1
  have hl : lv_has ls 3 [(0, .ref hm), (1, .int (iZ x1))] := hl
  obtain ⟨m0, m1, m3, m4, m5, mF, mO, mS⟩ := id hM
  refine lv_iload_n hx hb dX12_live_0 rfl (lv_at hl 1 rfl) ?_
  refine lv_i2l (v := (iZ x1).toInt64) hx hb dX12_live_1 rfl ?_
  refine lv_lconst (v := 0) hx hb dX12_live_2 rfl ?_
  refine lv_ldc2 (own := RX12) (v := 9999) hx hb hown (hts _ qk_X12_399) dX12_live_3 ?_
  refine CPS (As := [.long ((iZ x1).toInt64), .long 0, .long 9999]) (rest := []) hx hb hml hown hts hKK (hP.sub (ws' := []) [] rfl) (m_isFrom l D k ((iZ x1).toInt64) 0 9999) ci_X12_isFrom qm_X12_295 ⟨Nat.le_of_ble_eq_true rfl, Nat.le_of_ble_eq_true rfl⟩ ⟨Nat.le_of_ble_eq_true rfl, Nat.le_of_ble_eq_true rfl⟩ rfl hl.1 rfl (Nat.le_of_ble_eq_true rfl) dX12_live_6 (fun z_1 hz_1 => ?_)
  have tt_2_z_1 := tI64 (z := x1) ⟨by omega, by omega⟩
  have tt_3_z_1 := show (0 : Int64).toInt = 0 from (by decide)
  have tt_4_z_1 := show (9999 : Int64).toInt = 9999 from (by decide)
  rcases hz_1 with ⟨qz_1, hz_1⟩ | ⟨qz_1, hz_1⟩
  ·
    subst qz_1
    refine lv_if_ne (tgt := 18) hx hb dX12_live_9 (by decide) (fun _ => ?_) (fun c => absurd c (by decide))
    refine lv_aload_n hx hb dX12_live_18 rfl (lv_at hl 0 rfl) ?_
    refine va_get (D := D) (ci := 12) (v := .ref Ma) (C := RX12) (T := TX12) (N := 36) hx hb hts iX12 hown hK hP 0 rfl rfl 0 (by decide) (hts _ qf_X12_7) (fun _ h => h) rfl dX12_live_19 ?_
    refine lv_iconst (v := iZ 5) hx hb dX12_live_22 (by decide) ?_
    refine va_iald hx hb hK hP 1 1 rfl rfl (zin (e := 5) (n := 5340) ⟨by omega, by omega⟩ (by decide)) dX12_live_23 ?_
    refine lv_topi (fun x_6 ex_6 => ?_)
    obtain rfl : x_6 = iZ (gz Af 5) := ex_6.trans (gz_eq ⟨by omega, by omega⟩)
    have h_7 := gz_rg Af 5
    refine lv_iconst (v := iZ (-1)) hx hb dX12_live_24 (by decide) ?_
    refine lv_icmp_ne (tgt := 35) hx hb dX12_live_25 (by decide) (fun c_8 => ?_) (fun c_8 => ?_)
    ·
      have c_8 := mt (zeq (x := iZ (gz Af 5)) (y := iZ (-1)) rfl rfl ⟨by omega, by omega⟩ ⟨by omega, by omega⟩).mpr c_8
      refine lv_aload_n hx hb dX12_live_35 rfl (lv_at hl 0 rfl) ?_
      refine lv_iload_n hx hb dX12_live_36 rfl (lv_at hl 1 rfl) ?_
      refine CWV (As := [.int (iZ x1)]) (rest := []) (wc := [(hm, .inr (12, [.ref Ma, .ref Mn, .int (iZ Mst), .long Mtp, .long Mbt, .ref Ms, .ref My, .ref Mt, .ref Mp, .ref Mx, .int (iZ Mtd), .int (iZ Msz), .int (iZ Mtk), .int (iZ Mfr), .int (iZ Men), .int (iZ Mva), .int (iZ Mfk), .int (iZ Mfp), .int (iZ Mfs), .int (iZ Mse), .int (iZ Mlt), .ref Mo, .int (iZ Mdp), .int (iZ Mct), .ref Mk, .ref Ml, .ref Mb, .ref Mh, .ref Mc, .int (iZ Mdr), .int (iZ Mrs), .ref Mz, .ref Mr, .ref Mq, .int (iZ Mit), .int (iZ Mmk)])), (Ma, .inl (k 1, 5340, .inl Af)), (Mk, .inl (k 1, 6, .inl Kf)), (Ml, .inl (k 1, 6, .inl Lf)), (Mb, .inl (k 1, 6, .inl Bf)), (Mh, .inl (k 1, 120, .inl Hf)), (Mz, .inl (k 1, 80, .inl Zf)), (Mr, .inl (k 1, 5, .inl Rf))]) (wr := [(Mq, .inl (k 1, 5, .inl Qf))]) hx hb hml hown hts hKK hP hD hS hA (m_lives l D k hm Ma Mn Ms My Mt Mp Mx Mo Mk Ml Mb Mh Mc Mz Mr Mq Mst Mtd Msz Mtk Mfr Men Mva Mfk Mfp Mfs Mse Mlt Mdp Mct Mdr Mrs Mit Mmk Mtp Mbt Af Kf Lf Bf Hf Zf Rf x1 hM ⟨by omega, by omega⟩ rgH) ci_X12_lives qm_X12_401 ⟨Nat.le_of_ble_eq_true rfl, Nat.le_of_ble_eq_true rfl⟩ ⟨Nat.le_of_ble_eq_true rfl, Nat.le_of_ble_eq_true rfl⟩ [0, 1, 2, 3, 4, 5, 6, 7] [8] rfl rfl rfl rfl rfl (by decide) 0 rfl rfl rfl hl.1 rfl (Nat.le_of_ble_eq_true rfl) dX12_live_37 (fun u_9 H locs hφ hP hD hS => ?_)
      obtain ⟨I_10, L_11, F_12, G_13⟩ := u_9
      obtain ⟨p_15, p_16, p_17, p_18, p_19⟩ : (M0 (F_12 0)) ∧ (FR (F_12 0) Af) ∧ (0 ≤ (I_10 1) ∧ (I_10 1) ≤ 65535) ∧ (rgI (F_12 4) 0 1000000 120) ∧ (0 ≤ (I_10 2) ∧ (I_10 2) ≤ 200) := hφ
      obtain ⟨m0m_20, m1m_20, m3m_20, m4m_20, m5m_20, mFm_20, mOm_20, mSm_20⟩ := id p_15
      have frm_20 := FR.z p_16
      refine W.eq (g2 := F0 m 40 ls []) rfl ?_
      refine lv_iconst (v := iZ 0) hx hb dX12_live_40 (by decide) ?_
      refine lv_istore_n (lv' := [(2, .int (iZ 0)), (0, .ref hm), (1, .int (iZ x1))]) hx hb dX12_live_41 rfl hl (by decide) rfl (fun ls hl => ?_)
      have HL42 : ∀ (fu : Nat) (v2_42 : Int) (Qfq42 : Nat → Int32) (H : Heap) (locs : List Loc) (ls : Array Slot), ((4) + 2 - v2_42) < (fu : Int) → ((0 ≤ v2_42 ∧ v2_42 ≤ (4) + 1)) → va_P D vwCl [(Mq, .inl (k 1, 5, .inl Qfq42)), (hm, .inr (12, [.ref Ma, .ref Mn, .int (iZ Mst), .long Mtp, .long Mbt, .ref Ms, .ref My, .ref Mt, .ref Mp, .ref Mx, .int (iZ Mtd), .int (iZ Msz), .int (iZ Mtk), .int (iZ Mfr), .int (iZ Men), .int (iZ Mva), .int (iZ Mfk), .int (iZ Mfp), .int (iZ Mfs), .int (iZ Mse), .int (iZ Mlt), .ref Mo, .int (iZ Mdp), .int (iZ Mct), .ref Mk, .ref Ml, .ref Mb, .ref Mh, .ref Mc, .int (iZ (I_10 1)), .int (iZ (I_10 2)), .ref Mz, .ref Mr, .ref Mq, .int (iZ Mit), .int (iZ Mmk)])), (Ma, .inl (k 1, 5340, .inl (F_12 0))), (Mk, .inl (k 1, 6, .inl (F_12 1))), (Ml, .inl (k 1, 6, .inl (F_12 2))), (Mb, .inl (k 1, 6, .inl (F_12 3))), (Mh, .inl (k 1, 120, .inl (F_12 4))), (Mz, .inl (k 1, 80, .inl (F_12 5))), (Mr, .inl (k 1, 5, .inl (F_12 6)))] H → va_D A [(Mq, .inl (k 1, 5, .inl Qfq42)), (hm, .inr (12, [.ref Ma, .ref Mn, .int (iZ Mst), .long Mtp, .long Mbt, .ref Ms, .ref My, .ref Mt, .ref Mp, .ref Mx, .int (iZ Mtd), .int (iZ Msz), .int (iZ Mtk), .int (iZ Mfr), .int (iZ Men), .int (iZ Mva), .int (iZ Mfk), .int (iZ Mfp), .int (iZ Mfs), .int (iZ Mse), .int (iZ Mlt), .ref Mo, .int (iZ Mdp), .int (iZ Mct), .ref Mk, .ref Ml, .ref Mb, .ref Mh, .ref Mc, .int (iZ (I_10 1)), .int (iZ (I_10 2)), .ref Mz, .ref Mr, .ref Mq, .int (iZ Mit), .int (iZ Mmk)])), (Ma, .inl (k 1, 5340, .inl (F_12 0))), (Mk, .inl (k 1, 6, .inl (F_12 1))), (Ml, .inl (k 1, 6, .inl (F_12 2))), (Mb, .inl (k 1, 6, .inl (F_12 3))), (Mh, .inl (k 1, 120, .inl (F_12 4))), (Mz, .inl (k 1, 80, .inl (F_12 5))), (Mr, .inl (k 1, 5, .inl (F_12 6)))] → va_S A s.heap H locs → lv_has ls 3 [(2, .int (iZ v2_42)), (0, .ref hm), (1, .int (iZ x1))] → W p l e (rj 10 0 0) s m [.ref hm, .int (iZ x1)].toArray below meth c H locs 0 0 (MQ below (QW (σ := ((Nat → Int) × (Nat → Int64) × (Nat → Nat → Int32) × (Nat → Nat → Int64))) (fun u => some (.int (iZ (u.1 0)))) (fun u => (M0 (u.2.2.1 1)) ∧ (FR (u.2.2.1 1) Af) ∧ (0 ≤ (u.1 3) ∧ (u.1 3) ≤ 65535) ∧ (rgI (u.2.2.1 5) 0 1000000 120) ∧ ((u.1 2) = 0 ∨ (u.1 2) = 1)) (fun u => [(hm, .inr (12, [.ref Ma, .ref Mn, .int (iZ (u.1 1)), .long Mtp, .long Mbt, .ref Ms, .ref My, .ref Mt, .ref Mp, .ref Mx, .int (iZ Mtd), .int (iZ Msz), .int (iZ Mtk), .int (iZ Mfr), .int (iZ Men), .int (iZ Mva), .int (iZ Mfk), .int (iZ Mfp), .int (iZ Mfs), .int (iZ Mse), .int (iZ Mlt), .ref Mo, .int (iZ Mdp), .int (iZ Mct), .ref Mk, .ref Ml, .ref Mb, .ref Mh, .ref Mc, .int (iZ (u.1 3)), .int (iZ (u.1 4)), .ref Mz, .ref Mr, .ref Mq, .int (iZ (u.1 2)), .int (iZ Mmk)])), (Ma, .inl (k 1, 5340, .inl (u.2.2.1 1))), (Mk, .inl (k 1, 6, .inl (u.2.2.1 2))), (Ml, .inl (k 1, 6, .inl (u.2.2.1 3))), (Mb, .inl (k 1, 6, .inl (u.2.2.1 4))), (Mh, .inl (k 1, 120, .inl (u.2.2.1 5))), (Mz, .inl (k 1, 80, .inl (u.2.2.1 6))), (Mr, .inl (k 1, 5, .inl (u.2.2.1 7))), (Mq, .inl (k 1, 5, .inl (u.2.2.1 0)))]) D A) [.ref hm, .int (iZ x1)].toArray s 0 0 A) (F0 m 42 ls []) := by
        intro fu
        induction fu with
        | zero => intro v2_42 Qfq42 H locs ls hμ42 hi42 hP hD hS hl; exact absurd hμ42 (by omega)
        | succ fu ih42 =>
          intro v2_42 Qfq42 H locs ls hμ42 hi42 hP hD hS hl
          refine lv_iload_n hx hb dX12_live_42 rfl (lv_at hl 0 rfl) ?_
          refine lv_iconst (v := iZ 5) hx hb dX12_live_43 (by decide) ?_
          refine lv_icmp_ge (tgt := 65) hx hb dX12_live_44 (by decide) (fun c_21 => ?_) (fun c_21 => ?_)
          ·
            have c_21 := (zle (x := iZ 5) (y := iZ v2_42) rfl rfl ⟨by omega, by omega⟩ ⟨by omega, by omega⟩).mp c_21
            refine lv_aload_n hx hb dX12_live_65 rfl (lv_at hl 1 rfl) ?_
            refine lv_iconst (v := iZ 1) hx hb dX12_live_66 (by decide) ?_
            refine va_put (D := D) (ci := 12) (v := .int (iZ 1)) (ty := .boolean) (C := RX12) (T := TX12) (N := 36) hx hb hts iX12 tyX12 tyX12_ok nmX12 hown hK hP hD hS 1 rfl rfl 34 (by decide) (hts _ qf_X12_404) (fun _ h => h) rfl (by decide +kernel) rfl rfl (Nat.le_of_ble_eq_true rfl) dX12_live_67 (fun H locs hP hD hS => ?_)
            refine lv_aload_n hx hb dX12_live_70 rfl (lv_at hl 1 rfl) ?_
            refine lv_aload_n hx hb dX12_live_71 rfl (lv_at hl 1 rfl) ?_
            refine va_get (D := D) (ci := 12) (v := .int (iZ (I_10 2))) (C := RX12) (T := TX12) (N := 36) hx hb hts iX12 hown hK hP 1 rfl rfl 30 (by decide) (hts _ qf_X12_387) (fun _ h => h) rfl dX12_live_72 ?_
            refine CWV (As := [.int (iZ (I_10 2))]) (rest := []) (wc := [(hm, .inr (12, [.ref Ma, .ref Mn, .int (iZ Mst), .long Mtp, .long Mbt, .ref Ms, .ref My, .ref Mt, .ref Mp, .ref Mx, .int (iZ Mtd), .int (iZ Msz), .int (iZ Mtk), .int (iZ Mfr), .int (iZ Men), .int (iZ Mva), .int (iZ Mfk), .int (iZ Mfp), .int (iZ Mfs), .int (iZ Mse), .int (iZ Mlt), .ref Mo, .int (iZ Mdp), .int (iZ Mct), .ref Mk, .ref Ml, .ref Mb, .ref Mh, .ref Mc, .int (iZ (I_10 1)), .int (iZ (I_10 2)), .ref Mz, .ref Mr, .ref Mq, .int (iZ 1), .int (iZ Mmk)]))]) (wr := [(Mq, .inl (k 1, 5, .inl Qfq42)), (Ma, .inl (k 1, 5340, .inl (F_12 0))), (Mk, .inl (k 1, 6, .inl (F_12 1))), (Ml, .inl (k 1, 6, .inl (F_12 2))), (Mb, .inl (k 1, 6, .inl (F_12 3))), (Mh, .inl (k 1, 120, .inl (F_12 4))), (Mz, .inl (k 1, 80, .inl (F_12 5))), (Mr, .inl (k 1, 5, .inl (F_12 6)))]) hx hb hml hown hts hKK hP hD hS hA (m_gives l D k hm Ma Mn Ms My Mt Mp Mx Mo Mk Ml Mb Mh Mc Mz Mr Mq Mst Mtd Msz Mtk Mfr Men Mva Mfk Mfp Mfs Mse Mlt Mdp Mct (I_10 1) (I_10 2) 1 Mmk Mtp Mbt (I_10 2)) ci_X12_gives qm_X12_85 ⟨Nat.le_of_ble_eq_true rfl, Nat.le_of_ble_eq_true rfl⟩ ⟨Nat.le_of_ble_eq_true rfl, Nat.le_of_ble_eq_true rfl⟩ [1] [0, 2, 3, 4, 5, 6, 7, 8] rfl rfl rfl rfl rfl (by decide) 0 rfl rfl rfl hl.1 rfl (Nat.le_of_ble_eq_true rfl) dX12_live_75 (fun u_22 H locs hφ hP hD hS => ?_)
            obtain ⟨I_23, L_24, F_25, G_26⟩ := u_22
            refine W.eq (g2 := F0 m 78 ls [.int (iZ (I_10 2))]) rfl ?_
            exact EWi hx hb hr hlocks hS (fun i => [(I_10 2), 0, 1, (I_10 1), (I_10 2)].getD i 0, fun i => [0].getD i 0, fun i => [Qfq42, (F_12 0), (F_12 1), (F_12 2), (F_12 3), (F_12 4), (F_12 5), (F_12 6)].getD i (fun _ => 0), fun i => [].getD i (fun _ => 0)) rfl ⟨(show M0 (F_12 0) from p_15), (show FR (F_12 0) Af from p_16), (show 0 ≤ (I_10 1) ∧ (I_10 1) ≤ 65535 from (by omega)), (show rgI (F_12 4) 0 1000000 120 from p_18), (show 1 = 0 ∨ 1 = 1 from (by omega))⟩ (hP.sub [8, 1, 2, 3, 4, 5, 6, 7, 0] rfl) (hD.sub [8, 1, 2, 3, 4, 5, 6, 7, 0] rfl rfl) dX12_live_78
          ·
            have c_21 := mt (zle (x := iZ 5) (y := iZ v2_42) rfl rfl ⟨by omega, by omega⟩ ⟨by omega, by omega⟩).mpr c_21
            refine lv_aload_n hx hb dX12_live_47 rfl (lv_at hl 1 rfl) ?_
            refine va_get (D := D) (ci := 12) (v := .ref Mq) (C := RX12) (T := TX12) (N := 36) hx hb hts iX12 hown hK hP 1 rfl rfl 33 (by decide) (hts _ qf_X12_68) (fun _ h => h) rfl dX12_live_48 ?_
            refine lv_iload_n hx hb dX12_live_51 rfl (lv_at hl 0 rfl) ?_
            refine lv_aload_n hx hb dX12_live_52 rfl (lv_at hl 1 rfl) ?_
            refine va_get (D := D) (ci := 12) (v := .ref Mr) (C := RX12) (T := TX12) (N := 36) hx hb hts iX12 hown hK hP 1 rfl rfl 32 (by decide) (hts _ qf_X12_65) (fun _ h => h) rfl dX12_live_53 ?_
            refine lv_iload_n hx hb dX12_live_56 rfl (lv_at hl 0 rfl) ?_
            refine va_iald hx hb hK hP 8 1 rfl rfl (zin (e := v2_42) (n := 5) ⟨by omega, by omega⟩ (by decide)) dX12_live_57 ?_
            refine lv_topi (fun x_28 ex_28 => ?_)
            obtain rfl : x_28 = iZ (gz (F_12 6) v2_42) := ex_28.trans (gz_eq ⟨by omega, by omega⟩)
            have h_29 := gz_rg (F_12 6) v2_42
            refine va_iast hx hb hK hP hD hS 0 1 rfl rfl (zin (e := v2_42) (n := 5) ⟨by omega, by omega⟩ (by decide)) dX12_live_58 (fun H locs hP hD hS => ?_)
            obtain ⟨f_30, hf_30⟩ : ∃ gg9, gg9 = upd Qfq42 (iZ v2_42).toNatClampNeg (iZ (gz (F_12 6) v2_42)) := ⟨_, rfl⟩
            rw [← hf_30] at hP hD
            refine lv_iinc (v := iZ (v2_42 + 1)) (lv' := [(2, .int (iZ (v2_42 + 1))), (0, .ref hm), (1, .int (iZ x1))]) hx hb dX12_live_59 hl (k := 0) rfl (iZ_add v2_42 1) (by decide) rfl (fun ls hl => ?_)
            refine lv_goto (tgt := 42) hx hb dX12_live_62 (by decide) ?_
            exact ih42  (v2_42 + 1) f_30 _ _ _ (by omega) (show (0 ≤ (v2_42 + 1) ∧ (v2_42 + 1) ≤ (4) + 1) from ⟨by omega, by omega⟩) (hP.sub [0, 1, 2, 3, 4, 5, 6, 7, 8] rfl) (hD.sub [0, 1, 2, 3, 4, 5, 6, 7, 8] rfl rfl) hS (lv_sub hl [0, 1, 2] rfl)
      exact HL42 8 0 Qf _ _ _ (by omega) (show (0 ≤ 0 ∧ 0 ≤ (4) + 1) from ⟨by omega, by omega⟩) (hP.sub [0, 1, 2, 3, 4, 5, 6, 7, 8] rfl) (hD.sub [0, 1, 2, 3, 4, 5, 6, 7, 8] rfl rfl) hS (lv_sub hl [0, 1, 2] rfl)
    ·
      have c_8 := (zeq (x := iZ (gz Af 5)) (y := iZ (-1)) rfl rfl ⟨by omega, by omega⟩ ⟨by omega, by omega⟩).mp c_8
      refine lv_aload_n hx hb dX12_live_28 rfl (lv_at hl 0 rfl) ?_
      refine lv_bipush (v := iZ 6) hx hb dX12_live_29 (by decide) ?_
      refine CWV (As := [.int (iZ 6)]) (rest := []) (wc := [(hm, .inr (12, [.ref Ma, .ref Mn, .int (iZ Mst), .long Mtp, .long Mbt, .ref Ms, .ref My, .ref Mt, .ref Mp, .ref Mx, .int (iZ Mtd), .int (iZ Msz), .int (iZ Mtk), .int (iZ Mfr), .int (iZ Men), .int (iZ Mva), .int (iZ Mfk), .int (iZ Mfp), .int (iZ Mfs), .int (iZ Mse), .int (iZ Mlt), .ref Mo, .int (iZ Mdp), .int (iZ Mct), .ref Mk, .ref Ml, .ref Mb, .ref Mh, .ref Mc, .int (iZ Mdr), .int (iZ Mrs), .ref Mz, .ref Mr, .ref Mq, .int (iZ Mit), .int (iZ Mmk)]))]) (wr := [(Ma, .inl (k 1, 5340, .inl Af)), (Mk, .inl (k 1, 6, .inl Kf)), (Ml, .inl (k 1, 6, .inl Lf)), (Mb, .inl (k 1, 6, .inl Bf)), (Mh, .inl (k 1, 120, .inl Hf)), (Mz, .inl (k 1, 80, .inl Zf)), (Mr, .inl (k 1, 5, .inl Rf)), (Mq, .inl (k 1, 5, .inl Qf))]) hx hb hml hown hts hKK hP hD hS hA (m_refuse l D k hm Ma Mn Ms My Mt Mp Mx Mo Mk Ml Mb Mh Mc Mz Mr Mq Mst Mtd Msz Mtk Mfr Men Mva Mfk Mfp Mfs Mse Mlt Mdp Mct Mdr Mrs Mit Mmk Mtp Mbt 6) ci_X12_refuse qm_X12_81 ⟨Nat.le_of_ble_eq_true rfl, Nat.le_of_ble_eq_true rfl⟩ ⟨Nat.le_of_ble_eq_true rfl, Nat.le_of_ble_eq_true rfl⟩ [0] [1, 2, 3, 4, 5, 6, 7, 8] rfl rfl rfl rfl rfl (by decide) 0 rfl rfl rfl hl.1 rfl (Nat.le_of_ble_eq_true rfl) dX12_live_31 (fun u_31 H locs hφ hP hD hS => ?_)
      obtain ⟨I_32, L_33, F_34, G_35⟩ := u_31
      refine W.eq (g2 := F0 m 34 ls [.int (iZ (-1))]) rfl ?_
      exact EWi hx hb hr hlocks hS (fun i => [(-1), 6, Mit, Mdr, Mrs].getD i 0, fun i => [0].getD i 0, fun i => [Qf, Af, Kf, Lf, Bf, Hf, Zf, Rf].getD i (fun _ => 0), fun i => [].getD i (fun _ => 0)) rfl ⟨(show M0 Af from hM), (show FR Af Af from (FR.rf Af)), (show 0 ≤ Mdr ∧ Mdr ≤ 65535 from (by omega)), (show rgI Hf 0 1000000 120 from rgH), (show Mit = 0 ∨ Mit = 1 from (by omega))⟩ (hP.sub [8, 0, 1, 2, 3, 4, 5, 6, 7] rfl) (hD.sub [8, 0, 1, 2, 3, 4, 5, 6, 7] rfl rfl) dX12_live_34
  ·
    subst qz_1
    refine lv_if_ne (tgt := 18) hx hb dX12_live_9 (by decide) (fun c => absurd (by decide) c) (fun _ => ?_)
    refine lv_aload_n hx hb dX12_live_12 rfl (lv_at hl 0 rfl) ?_
    refine lv_iconst (v := iZ 1) hx hb dX12_live_13 (by decide) ?_
    refine CWV (As := [.int (iZ 1)]) (rest := []) (wc := [(hm, .inr (12, [.ref Ma, .ref Mn, .int (iZ Mst), .long Mtp, .long Mbt, .ref Ms, .ref My, .ref Mt, .ref Mp, .ref Mx, .int (iZ Mtd), .int (iZ Msz), .int (iZ Mtk), .int (iZ Mfr), .int (iZ Men), .int (iZ Mva), .int (iZ Mfk), .int (iZ Mfp), .int (iZ Mfs), .int (iZ Mse), .int (iZ Mlt), .ref Mo, .int (iZ Mdp), .int (iZ Mct), .ref Mk, .ref Ml, .ref Mb, .ref Mh, .ref Mc, .int (iZ Mdr), .int (iZ Mrs), .ref Mz, .ref Mr, .ref Mq, .int (iZ Mit), .int (iZ Mmk)]))]) (wr := [(Ma, .inl (k 1, 5340, .inl Af)), (Mk, .inl (k 1, 6, .inl Kf)), (Ml, .inl (k 1, 6, .inl Lf)), (Mb, .inl (k 1, 6, .inl Bf)), (Mh, .inl (k 1, 120, .inl Hf)), (Mz, .inl (k 1, 80, .inl Zf)), (Mr, .inl (k 1, 5, .inl Rf)), (Mq, .inl (k 1, 5, .inl Qf))]) hx hb hml hown hts hKK hP hD hS hA (m_refuse l D k hm Ma Mn Ms My Mt Mp Mx Mo Mk Ml Mb Mh Mc Mz Mr Mq Mst Mtd Msz Mtk Mfr Men Mva Mfk Mfp Mfs Mse Mlt Mdp Mct Mdr Mrs Mit Mmk Mtp Mbt 1) ci_X12_refuse qm_X12_81 ⟨Nat.le_of_ble_eq_true rfl, Nat.le_of_ble_eq_true rfl⟩ ⟨Nat.le_of_ble_eq_true rfl, Nat.le_of_ble_eq_true rfl⟩ [0] [1, 2, 3, 4, 5, 6, 7, 8] rfl rfl rfl rfl rfl (by decide) 0 rfl rfl rfl hl.1 rfl (Nat.le_of_ble_eq_true rfl) dX12_live_14 (fun u_38 H locs hφ hP hD hS => ?_)
    obtain ⟨I_39, L_40, F_41, G_42⟩ := u_38
    refine W.eq (g2 := F0 m 17 ls [.int (iZ (-1))]) rfl ?_
    exact EWi hx hb hr hlocks hS (fun i => [(-1), 1, Mit, Mdr, Mrs].getD i 0, fun i => [0].getD i 0, fun i => [Qf, Af, Kf, Lf, Bf, Hf, Zf, Rf].getD i (fun _ => 0), fun i => [].getD i (fun _ => 0)) rfl ⟨(show M0 Af from hM), (show FR Af Af from (FR.rf Af)), (show 0 ≤ Mdr ∧ Mdr ≤ 65535 from (by omega)), (show rgI Hf 0 1000000 120 from rgH), (show Mit = 0 ∨ Mit = 1 from (by omega))⟩ (hP.sub [8, 0, 1, 2, 3, 4, 5, 6, 7] rfl) (hD.sub [8, 0, 1, 2, 3, 4, 5, 6, 7] rfl rfl) dX12_live_17
set_option maxHeartbeats 4000000 in
set_option maxRecDepth 100000 in
theorem q_lived (l : Launch) (D : va_G) (k : Nat → ClassId) (hm : Nat) (Ma : Nat) (Mn : Nat) (Ms : Nat) (My : Nat) (Mt : Nat) (Mp : Nat) (Mx : Nat) (Mo : Nat) (Mk : Nat) (Ml : Nat) (Mb : Nat) (Mh : Nat) (Mc : Nat) (Mz : Nat) (Mr : Nat) (Mq : Nat) (Mst : Int) (Mtd : Int) (Msz : Int) (Mtk : Int) (Mfr : Int) (Men : Int) (Mva : Int) (Mfk : Int) (Mfp : Int) (Mfs : Int) (Mse : Int) (Mlt : Int) (Mdp : Int) (Mct : Int) (Mdr : Int) (Mrs : Int) (Mit : Int) (Mmk : Int) (Mtp : Int64) (Mbt : Int64) (Af : Nat → Int32) (Qf : Nat → Int32) (x1 : Int) (hM : M0 Af) (hit : Mit = 0 ∨ Mit = 1) (h9x1 : -2147483648 ≤ x1 ∧ x1 < 2147483648) : WD (σ := ((Nat → Int) × (Nat → Int64) × (Nat → Nat → Int32) × (Nat → Nat → Int64))) l yX12_lived cX12_lived 2 (some .int) 1 0 0 D k [.ref hm, .int (iZ x1)] [(hm, .inr (12, [.ref Ma, .ref Mn, .int (iZ Mst), .long Mtp, .long Mbt, .ref Ms, .ref My, .ref Mt, .ref Mp, .ref Mx, .int (iZ Mtd), .int (iZ Msz), .int (iZ Mtk), .int (iZ Mfr), .int (iZ Men), .int (iZ Mva), .int (iZ Mfk), .int (iZ Mfp), .int (iZ Mfs), .int (iZ Mse), .int (iZ Mlt), .ref Mo, .int (iZ Mdp), .int (iZ Mct), .ref Mk, .ref Ml, .ref Mb, .ref Mh, .ref Mc, .int (iZ Mdr), .int (iZ Mrs), .ref Mz, .ref Mr, .ref Mq, .int (iZ Mit), .int (iZ Mmk)])), (Ma, .inl (k 1, 5340, .inl Af)), (Mq, .inl (k 1, 5, .inl Qf))] (fun u => some (.int (iZ (u.1 0)))) (fun _ => True) (fun u => [(hm, .inr (12, [.ref Ma, .ref Mn, .int (iZ (u.1 1)), .long Mtp, .long Mbt, .ref Ms, .ref My, .ref Mt, .ref Mp, .ref Mx, .int (iZ Mtd), .int (iZ Msz), .int (iZ Mtk), .int (iZ Mfr), .int (iZ Men), .int (iZ Mva), .int (iZ Mfk), .int (iZ Mfp), .int (iZ Mfs), .int (iZ Mse), .int (iZ Mlt), .ref Mo, .int (iZ Mdp), .int (iZ Mct), .ref Mk, .ref Ml, .ref Mb, .ref Mh, .ref Mc, .int (iZ Mdr), .int (iZ Mrs), .ref Mz, .ref Mr, .ref Mq, .int (iZ Mit), .int (iZ Mmk)])), (Ma, .inl (k 1, 5340, .inl Af)), (Mq, .inl (k 1, 5, .inl Qf))]) := by
  refine MW (by decide) (Nat.le_of_ble_eq_true rfl) (fun p e s m below meth c ls A hx hb hml hr hlocks hin hts hown hKK hP hD hS hA hl => ?_)
  have hK := hKK.1
  have hl : lv_has ls 2 [(0, .ref hm), (1, .int (iZ x1))] := hl
  obtain ⟨m0, m1, m3, m4, m5, mF, mO, mS⟩ := id hM
  refine lv_iload_n hx hb dX12_lived_0 rfl (lv_at hl 1 rfl) ?_
  refine lv_if_lt (tgt := 9) hx hb dX12_lived_1 (by decide) (fun c_1 => ?_) (fun c_1 => ?_)
  ·
    have c_1 := (zlt (x := iZ x1) (y := iZ 0) rfl rfl ⟨by omega, by omega⟩ ⟨by omega, by omega⟩).mp c_1
    refine lv_aload_n hx hb dX12_lived_9 rfl (lv_at hl 0 rfl) ?_
    refine lv_iconst (v := iZ 1) hx hb dX12_lived_10 (by decide) ?_
    refine CWV (As := [.int (iZ 1)]) (rest := []) (wc := [(hm, .inr (12, [.ref Ma, .ref Mn, .int (iZ Mst), .long Mtp, .long Mbt, .ref Ms, .ref My, .ref Mt, .ref Mp, .ref Mx, .int (iZ Mtd), .int (iZ Msz), .int (iZ Mtk), .int (iZ Mfr), .int (iZ Men), .int (iZ Mva), .int (iZ Mfk), .int (iZ Mfp), .int (iZ Mfs), .int (iZ Mse), .int (iZ Mlt), .ref Mo, .int (iZ Mdp), .int (iZ Mct), .ref Mk, .ref Ml, .ref Mb, .ref Mh, .ref Mc, .int (iZ Mdr), .int (iZ Mrs), .ref Mz, .ref Mr, .ref Mq, .int (iZ Mit), .int (iZ Mmk)]))]) (wr := [(Ma, .inl (k 1, 5340, .inl Af)), (Mq, .inl (k 1, 5, .inl Qf))]) hx hb hml hown hts hKK hP hD hS hA (m_refuse l D k hm Ma Mn Ms My Mt Mp Mx Mo Mk Ml Mb Mh Mc Mz Mr Mq Mst Mtd Msz Mtk Mfr Men Mva Mfk Mfp Mfs Mse Mlt Mdp Mct Mdr Mrs Mit Mmk Mtp Mbt 1) ci_X12_refuse qm_X12_81 ⟨Nat.le_of_ble_eq_true rfl, Nat.le_of_ble_eq_true rfl⟩ ⟨Nat.le_of_ble_eq_true rfl, Nat.le_of_ble_eq_true rfl⟩ [0] [1, 2] rfl rfl rfl rfl rfl (by decide) 0 rfl rfl rfl hl.1 rfl (Nat.le_of_ble_eq_true rfl) dX12_lived_11 (fun u_2 H locs hφ hP hD hS => ?_)
    obtain ⟨I_3, L_4, F_5, G_6⟩ := u_2
    refine W.eq (g2 := F0 m 14 ls [.int (iZ (-1))]) rfl ?_
    refine lv_goto (tgt := 43) hx hb dX12_lived_14 (by decide) ?_
    exact EWi hx hb hr hlocks hS (fun i => [(-1), 1].getD i 0, fun i => [0].getD i 0, fun i => [].getD i (fun _ => 0), fun i => [].getD i (fun _ => 0)) rfl trivial (hP.sub [2, 0, 1] rfl) (hD.sub [2, 0, 1] rfl rfl) dX12_lived_43
  ·
    have c_1 := mt (zlt (x := iZ x1) (y := iZ 0) rfl rfl ⟨by omega, by omega⟩ ⟨by omega, by omega⟩).mpr c_1
    refine lv_iload_n hx hb dX12_lived_4 rfl (lv_at hl 1 rfl) ?_
    refine lv_iconst (v := iZ 4) hx hb dX12_lived_5 (by decide) ?_
    refine lv_icmp_le (tgt := 17) hx hb dX12_lived_6 (by decide) (fun c_8 => ?_) (fun c_8 => ?_)
    ·
      have c_8 := (zle (x := iZ x1) (y := iZ 4) rfl rfl ⟨by omega, by omega⟩ ⟨by omega, by omega⟩).mp c_8
      refine lv_aload_n hx hb dX12_lived_17 rfl (lv_at hl 0 rfl) ?_
      refine va_get (D := D) (ci := 12) (v := .int (iZ Mit)) (C := RX12) (T := TX12) (N := 36) hx hb hts iX12 hown hK hP 0 rfl rfl 34 (by decide) (hts _ qf_X12_404) (fun _ h => h) rfl dX12_lived_18 ?_
      refine lv_if_eq (tgt := 37) hx hb dX12_lived_21 (by decide) (fun c_9 => ?_) (fun c_9 => ?_)
      ·
        have c_9 := (zeq (x := iZ Mit) (y := iZ 0) rfl rfl ⟨by omega, by omega⟩ ⟨by omega, by omega⟩).mp c_9
        refine lv_aload_n hx hb dX12_lived_37 rfl (lv_at hl 0 rfl) ?_
        refine lv_bipush (v := iZ 6) hx hb dX12_lived_38 (by decide) ?_
        refine CWV (As := [.int (iZ 6)]) (rest := []) (wc := [(hm, .inr (12, [.ref Ma, .ref Mn, .int (iZ Mst), .long Mtp, .long Mbt, .ref Ms, .ref My, .ref Mt, .ref Mp, .ref Mx, .int (iZ Mtd), .int (iZ Msz), .int (iZ Mtk), .int (iZ Mfr), .int (iZ Men), .int (iZ Mva), .int (iZ Mfk), .int (iZ Mfp), .int (iZ Mfs), .int (iZ Mse), .int (iZ Mlt), .ref Mo, .int (iZ Mdp), .int (iZ Mct), .ref Mk, .ref Ml, .ref Mb, .ref Mh, .ref Mc, .int (iZ Mdr), .int (iZ Mrs), .ref Mz, .ref Mr, .ref Mq, .int (iZ Mit), .int (iZ Mmk)]))]) (wr := [(Ma, .inl (k 1, 5340, .inl Af)), (Mq, .inl (k 1, 5, .inl Qf))]) hx hb hml hown hts hKK hP hD hS hA (m_refuse l D k hm Ma Mn Ms My Mt Mp Mx Mo Mk Ml Mb Mh Mc Mz Mr Mq Mst Mtd Msz Mtk Mfr Men Mva Mfk Mfp Mfs Mse Mlt Mdp Mct Mdr Mrs Mit Mmk Mtp Mbt 6) ci_X12_refuse qm_X12_81 ⟨Nat.le_of_ble_eq_true rfl, Nat.le_of_ble_eq_true rfl⟩ ⟨Nat.le_of_ble_eq_true rfl, Nat.le_of_ble_eq_true rfl⟩ [0] [1, 2] rfl rfl rfl rfl rfl (by decide) 0 rfl rfl rfl hl.1 rfl (Nat.le_of_ble_eq_true rfl) dX12_lived_40 (fun u_10 H locs hφ hP hD hS => ?_)
        obtain ⟨I_11, L_12, F_13, G_14⟩ := u_10
        refine W.eq (g2 := F0 m 43 ls [.int (iZ (-1))]) rfl ?_
        exact EWi hx hb hr hlocks hS (fun i => [(-1), 6].getD i 0, fun i => [0].getD i 0, fun i => [].getD i (fun _ => 0), fun i => [].getD i (fun _ => 0)) rfl trivial (hP.sub [2, 0, 1] rfl) (hD.sub [2, 0, 1] rfl rfl) dX12_lived_43
      ·
        have c_9 := mt (zeq (x := iZ Mit) (y := iZ 0) rfl rfl ⟨by omega, by omega⟩ ⟨by omega, by omega⟩).mpr c_9
        refine lv_aload_n hx hb dX12_lived_24 rfl (lv_at hl 0 rfl) ?_
        refine lv_aload_n hx hb dX12_lived_25 rfl (lv_at hl 0 rfl) ?_
        refine va_get (D := D) (ci := 12) (v := .ref Mq) (C := RX12) (T := TX12) (N := 36) hx hb hts iX12 hown hK hP 0 rfl rfl 33 (by decide) (hts _ qf_X12_68) (fun _ h => h) rfl dX12_lived_26 ?_
        refine lv_iload_n hx hb dX12_lived_29 rfl (lv_at hl 1 rfl) ?_
        refine va_iald hx hb hK hP 2 1 rfl rfl (zin (e := x1) (n := 5) ⟨by omega, by omega⟩ (by decide)) dX12_lived_30 ?_
        refine lv_topi (fun x_16 ex_16 => ?_)
        obtain rfl : x_16 = iZ (gz Qf x1) := ex_16.trans (gz_eq ⟨by omega, by omega⟩)
        have h_17 := gz_rg Qf x1
        refine CWV (As := [.int (iZ (gz Qf x1))]) (rest := []) (wc := [(hm, .inr (12, [.ref Ma, .ref Mn, .int (iZ Mst), .long Mtp, .long Mbt, .ref Ms, .ref My, .ref Mt, .ref Mp, .ref Mx, .int (iZ Mtd), .int (iZ Msz), .int (iZ Mtk), .int (iZ Mfr), .int (iZ Men), .int (iZ Mva), .int (iZ Mfk), .int (iZ Mfp), .int (iZ Mfs), .int (iZ Mse), .int (iZ Mlt), .ref Mo, .int (iZ Mdp), .int (iZ Mct), .ref Mk, .ref Ml, .ref Mb, .ref Mh, .ref Mc, .int (iZ Mdr), .int (iZ Mrs), .ref Mz, .ref Mr, .ref Mq, .int (iZ Mit), .int (iZ Mmk)]))]) (wr := [(Ma, .inl (k 1, 5340, .inl Af)), (Mq, .inl (k 1, 5, .inl Qf))]) hx hb hml hown hts hKK hP hD hS hA (m_gives l D k hm Ma Mn Ms My Mt Mp Mx Mo Mk Ml Mb Mh Mc Mz Mr Mq Mst Mtd Msz Mtk Mfr Men Mva Mfk Mfp Mfs Mse Mlt Mdp Mct Mdr Mrs Mit Mmk Mtp Mbt (gz Qf x1)) ci_X12_gives qm_X12_85 ⟨Nat.le_of_ble_eq_true rfl, Nat.le_of_ble_eq_true rfl⟩ ⟨Nat.le_of_ble_eq_true rfl, Nat.le_of_ble_eq_true rfl⟩ [0] [1, 2] rfl rfl rfl rfl rfl (by decide) 0 rfl rfl rfl hl.1 rfl (Nat.le_of_ble_eq_true rfl) dX12_lived_31 (fun u_18 H locs hφ hP hD hS => ?_)
        obtain ⟨I_19, L_20, F_21, G_22⟩ := u_18
        refine W.eq (g2 := F0 m 34 ls [.int (iZ (gz Qf x1))]) rfl ?_
        refine lv_goto (tgt := 43) hx hb dX12_lived_34 (by decide) ?_
        exact EWi hx hb hr hlocks hS (fun i => [(gz Qf x1), 0].getD i 0, fun i => [0].getD i 0, fun i => [].getD i (fun _ => 0), fun i => [].getD i (fun _ => 0)) rfl trivial (hP.sub [2, 0, 1] rfl) (hD.sub [2, 0, 1] rfl rfl) dX12_lived_43
    ·
      have c_8 := mt (zle (x := iZ x1) (y := iZ 4) rfl rfl ⟨by omega, by omega⟩ ⟨by omega, by omega⟩).mpr c_8
      refine lv_aload_n hx hb dX12_lived_9 rfl (lv_at hl 0 rfl) ?_
      refine lv_iconst (v := iZ 1) hx hb dX12_lived_10 (by decide) ?_
      refine CWV (As := [.int (iZ 1)]) (rest := []) (wc := [(hm, .inr (12, [.ref Ma, .ref Mn, .int (iZ Mst), .long Mtp, .long Mbt, .ref Ms, .ref My, .ref Mt, .ref Mp, .ref Mx, .int (iZ Mtd), .int (iZ Msz), .int (iZ Mtk), .int (iZ Mfr), .int (iZ Men), .int (iZ Mva), .int (iZ Mfk), .int (iZ Mfp), .int (iZ Mfs), .int (iZ Mse), .int (iZ Mlt), .ref Mo, .int (iZ Mdp), .int (iZ Mct), .ref Mk, .ref Ml, .ref Mb, .ref Mh, .ref Mc, .int (iZ Mdr), .int (iZ Mrs), .ref Mz, .ref Mr, .ref Mq, .int (iZ Mit), .int (iZ Mmk)]))]) (wr := [(Ma, .inl (k 1, 5340, .inl Af)), (Mq, .inl (k 1, 5, .inl Qf))]) hx hb hml hown hts hKK hP hD hS hA (m_refuse l D k hm Ma Mn Ms My Mt Mp Mx Mo Mk Ml Mb Mh Mc Mz Mr Mq Mst Mtd Msz Mtk Mfr Men Mva Mfk Mfp Mfs Mse Mlt Mdp Mct Mdr Mrs Mit Mmk Mtp Mbt 1) ci_X12_refuse qm_X12_81 ⟨Nat.le_of_ble_eq_true rfl, Nat.le_of_ble_eq_true rfl⟩ ⟨Nat.le_of_ble_eq_true rfl, Nat.le_of_ble_eq_true rfl⟩ [0] [1, 2] rfl rfl rfl rfl rfl (by decide) 0 rfl rfl rfl hl.1 rfl (Nat.le_of_ble_eq_true rfl) dX12_lived_11 (fun u_24 H locs hφ hP hD hS => ?_)
      obtain ⟨I_25, L_26, F_27, G_28⟩ := u_24
      refine W.eq (g2 := F0 m 14 ls [.int (iZ (-1))]) rfl ?_
      refine lv_goto (tgt := 43) hx hb dX12_lived_14 (by decide) ?_
      exact EWi hx hb hr hlocks hS (fun i => [(-1), 1].getD i 0, fun i => [0].getD i 0, fun i => [].getD i (fun _ => 0), fun i => [].getD i (fun _ => 0)) rfl trivial (hP.sub [2, 0, 1] rfl) (hD.sub [2, 0, 1] rfl rfl) dX12_lived_43
