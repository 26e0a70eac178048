set_option maxHeartbeats 4000000 in
set_option maxRecDepth 100000 in
theorem q_pass (l : Launch) (D : va_G) (k : Nat → ClassId) (hm : Nat) (Ma : Nat) (Mn : Nat) (Ms : Nat) (My : Nat) (Mt : Nat) (Mp : Nat) (Mx : Nat) (Mo : Nat) (Mk : Nat) (Ml : Nat) (Mb : Nat) (Mh : Nat) (Mc : Nat) (Mz : Nat) (Mr : Nat) (Mq : Nat) (Mst : Int) (Mtd : Int) (Msz : Int) (Mtk : Int) (Mfr : Int) (Men : Int) (Mva : Int) (Mfk : Int) (Mfp : Int) (Mfs : Int) (Mse : Int) (Mlt : Int) (Mdp : Int) (Mct : Int) (Mdr : Int) (Mrs : Int) (Mit : Int) (Mmk : Int) (Mtp : Int64) (Mbt : Int64) (Af : Nat → Int32) (x1 : Int) (hM : M0 Af) (h9x1 : -2147483648 ≤ x1 ∧ x1 < 2147483648) : WD (σ := ((Nat → Int) × (Nat → Int64) × (Nat → Nat → Int32) × (Nat → Nat → Int64))) l yX12_pass cX12_pass 4 (some .int) 8 0 0 D k [.ref hm, .int (iZ x1)] [(hm, .inr (12, [.ref Ma, .ref Mn, .int (iZ Mst), .long Mtp, .long Mbt, .ref Ms, .ref My, .ref Mt, .ref Mp, .ref Mx, .int (iZ Mtd), .int (iZ Msz), .int (iZ Mtk), .int (iZ Mfr), .int (iZ Men), .int (iZ Mva), .int (iZ Mfk), .int (iZ Mfp), .int (iZ Mfs), .int (iZ Mse), .int (iZ Mlt), .ref Mo, .int (iZ Mdp), .int (iZ Mct), .ref Mk, .ref Ml, .ref Mb, .ref Mh, .ref Mc, .int (iZ Mdr), .int (iZ Mrs), .ref Mz, .ref Mr, .ref Mq, .int (iZ Mit), .int (iZ Mmk)])), (Ma, .inl (k 1, 5340, .inl Af))] (fun u => some (.int (iZ (u.1 0)))) (fun u => (M0 (u.2.2.1 0)) ∧ (FR (u.2.2.1 0) Af)) (fun u => [(hm, .inr (12, [.ref Ma, .ref Mn, .int (iZ (u.1 1)), .long Mtp, .long Mbt, .ref Ms, .ref My, .ref Mt, .ref Mp, .ref Mx, .int (iZ Mtd), .int (iZ Msz), .int (iZ Mtk), .int (iZ Mfr), .int (iZ Men), .int (iZ Mva), .int (iZ Mfk), .int (iZ Mfp), .int (iZ Mfs), .int (iZ Mse), .int (iZ Mlt), .ref Mo, .int (iZ Mdp), .int (iZ Mct), .ref Mk, .ref Ml, .ref Mb, .ref Mh, .ref Mc, .int (iZ Mdr), .int (iZ Mrs), .ref Mz, .ref Mr, .ref Mq, .int (iZ Mit), .int (iZ Mmk)])), (Ma, .inl (k 1, 5340, .inl (u.2.2.1 0)))]) := by
  refine MW (by decide) (Nat.le_of_ble_eq_true rfl) (fun p e s m below meth c ls A hx hb hml hr hlocks hin hts hown hKK hP hD hS hA hl => ?_)
  have hK := hKK.1
  have hl : lv_has ls 4 [(0, .ref hm), (1, .int (iZ x1))] := hl
  obtain ⟨m0, m1, m3, m4, m5, mF, mO, mS⟩ := id hM
  refine lv_iload_n hx hb dX12_pass_0 rfl (lv_at hl 1 rfl) ?_
  refine lv_i2l (v := (iZ x1).toInt64) hx hb dX12_pass_1 rfl ?_
  refine lv_lconst (v := 1) hx hb dX12_pass_2 rfl ?_
  refine lv_ldc2 (own := RX12) (v := 99) hx hb hown (hts _ qk_X12_369) dX12_pass_3 ?_
  refine CPS (As := [.long ((iZ x1).toInt64), .long 1, .long 99]) (rest := []) hx hb hml hown hts hKK (hP.sub (ws' := []) [] rfl) (m_isFrom l D k ((iZ x1).toInt64) 1 99) ci_X12_isFrom qm_X12_295 ⟨Nat.le_of_ble_eq_true rfl, Nat.le_of_ble_eq_true rfl⟩ ⟨Nat.le_of_ble_eq_true rfl, Nat.le_of_ble_eq_true rfl⟩ rfl hl.1 rfl (Nat.le_of_ble_eq_true rfl) dX12_pass_6 (fun z_1 hz_1 => ?_)
  have tt_2_z_1 := tI64 (z := x1) ⟨by omega, by omega⟩
  have tt_3_z_1 := show (1 : Int64).toInt = 1 from (by decide)
  have tt_4_z_1 := show (99 : Int64).toInt = 99 from (by decide)
  rcases hz_1 with ⟨qz_1, hz_1⟩ | ⟨qz_1, hz_1⟩
  ·
    subst qz_1
    refine lv_if_ne (tgt := 18) hx hb dX12_pass_9 (by decide) (fun _ => ?_) (fun c => absurd c (by decide))
    refine lv_aload_n hx hb dX12_pass_18 rfl (lv_at hl 0 rfl) ?_
    refine va_get (D := D) (ci := 12) (v := .ref Ma) (C := RX12) (T := TX12) (N := 36) hx hb hts iX12 hown hK hP 0 rfl rfl 0 (by decide) (hts _ qf_X12_7) (fun _ h => h) rfl dX12_pass_19 ?_
    refine lv_iconst (v := iZ 3) hx hb dX12_pass_22 (by decide) ?_
    refine va_iald hx hb hK hP 1 1 rfl rfl (zin (e := 3) (n := 5340) ⟨by omega, by omega⟩ (by decide)) dX12_pass_23 ?_
    refine lv_topi (fun x_6 ex_6 => ?_)
    obtain rfl : x_6 = iZ (gz Af 3) := ex_6.trans (gz_eq ⟨by omega, by omega⟩)
    have h_7 := gz_rg Af 3
    refine lv_iload_n hx hb dX12_pass_24 rfl (lv_at hl 1 rfl) ?_
    refine lv_iadd hx hb dX12_pass_25 ?_
    refine lv_topi (fun x_8 ex_8 => ?_)
    obtain rfl : x_8 = iZ ((gz Af 3) + x1) := ex_8.trans (iZ_add (gz Af 3) x1)
    refine lv_sipush (v := iZ 400) hx hb dX12_pass_26 (by decide) ?_
    refine lv_icmp_le (tgt := 38) hx hb dX12_pass_29 (by decide) (fun c_9 => ?_) (fun c_9 => ?_)
    ·
      have c_9 := (zle (x := iZ ((gz Af 3) + x1)) (y := iZ 400) rfl rfl ⟨by omega, by omega⟩ ⟨by omega, by omega⟩).mp c_9
      refine lv_iconst (v := iZ 1) hx hb dX12_pass_38 (by decide) ?_
      refine lv_istore_n (lv' := [(2, .int (iZ 1)), (0, .ref hm), (1, .int (iZ x1))]) hx hb dX12_pass_39 rfl hl (by decide) rfl (fun ls hl => ?_)
      refine lv_iconst (v := iZ 0) hx hb dX12_pass_40 (by decide) ?_
      refine lv_istore_n (lv' := [(3, .int (iZ 0)), (2, .int (iZ 1)), (0, .ref hm), (1, .int (iZ x1))]) hx hb dX12_pass_41 rfl hl (by decide) rfl (fun ls hl => ?_)
      have HL42 : ∀ (fu : Nat) (v2_42 : Int) (v3_42 : Int) (Afq42 : Nat → Int32) (H : Heap) (locs : List Loc) (ls : Array Slot), ((x1) + 2 - v3_42) < (fu : Int) → ((0 ≤ v3_42 ∧ v3_42 ≤ (x1) + 1)) → (0 ≤ v2_42 ∧ v2_42 ≤ 1) → (M0 Afq42) → (FR Afq42 Af) → va_P D vwCl [(hm, .inr (12, [.ref Ma, .ref Mn, .int (iZ Mst), .long Mtp, .long Mbt, .ref Ms, .ref My, .ref Mt, .ref Mp, .ref Mx, .int (iZ Mtd), .int (iZ Msz), .int (iZ Mtk), .int (iZ Mfr), .int (iZ Men), .int (iZ Mva), .int (iZ Mfk), .int (iZ Mfp), .int (iZ Mfs), .int (iZ Mse), .int (iZ Mlt), .ref Mo, .int (iZ Mdp), .int (iZ Mct), .ref Mk, .ref Ml, .ref Mb, .ref Mh, .ref Mc, .int (iZ Mdr), .int (iZ Mrs), .ref Mz, .ref Mr, .ref Mq, .int (iZ Mit), .int (iZ Mmk)])), (Ma, .inl (k 1, 5340, .inl Afq42))] H → va_D A [(hm, .inr (12, [.ref Ma, .ref Mn, .int (iZ Mst), .long Mtp, .long Mbt, .ref Ms, .ref My, .ref Mt, .ref Mp, .ref Mx, .int (iZ Mtd), .int (iZ Msz), .int (iZ Mtk), .int (iZ Mfr), .int (iZ Men), .int (iZ Mva), .int (iZ Mfk), .int (iZ Mfp), .int (iZ Mfs), .int (iZ Mse), .int (iZ Mlt), .ref Mo, .int (iZ Mdp), .int (iZ Mct), .ref Mk, .ref Ml, .ref Mb, .ref Mh, .ref Mc, .int (iZ Mdr), .int (iZ Mrs), .ref Mz, .ref Mr, .ref Mq, .int (iZ Mit), .int (iZ Mmk)])), (Ma, .inl (k 1, 5340, .inl Afq42))] → va_S A s.heap H locs → lv_has ls 4 [(3, .int (iZ v3_42)), (2, .int (iZ v2_42)), (0, .ref hm), (1, .int (iZ x1))] → W p l e (rj 8 0 0) s m [.ref hm, .int (iZ x1)].toArray below meth c H locs 0 0 (MQ below (QW (σ := ((Nat → Int) × (Nat → Int64) × (Nat → Nat → Int32) × (Nat → Nat → Int64))) (fun u => some (.int (iZ (u.1 0)))) (fun u => (M0 (u.2.2.1 0)) ∧ (FR (u.2.2.1 0) Af)) (fun u => [(hm, .inr (12, [.ref Ma, .ref Mn, .int (iZ (u.1 1)), .long Mtp, .long Mbt, .ref Ms, .ref My, .ref Mt, .ref Mp, .ref Mx, .int (iZ Mtd), .int (iZ Msz), .int (iZ Mtk), .int (iZ Mfr), .int (iZ Men), .int (iZ Mva), .int (iZ Mfk), .int (iZ Mfp), .int (iZ Mfs), .int (iZ Mse), .int (iZ Mlt), .ref Mo, .int (iZ Mdp), .int (iZ Mct), .ref Mk, .ref Ml, .ref Mb, .ref Mh, .ref Mc, .int (iZ Mdr), .int (iZ Mrs), .ref Mz, .ref Mr, .ref Mq, .int (iZ Mit), .int (iZ Mmk)])), (Ma, .inl (k 1, 5340, .inl (u.2.2.1 0)))]) D A) [.ref hm, .int (iZ x1)].toArray s 0 0 A) (F0 m 42 ls []) := by
        intro fu
        induction fu with
        | zero => intro v2_42 v3_42 Afq42 H locs ls hμ42 hi42 hf0_42 hM42 hF42 hP hD hS hl; exact absurd hμ42 (by omega)
        | succ fu ih42 =>
          intro v2_42 v3_42 Afq42 H locs ls hμ42 hi42 hf0_42 hM42 hF42 hP hD hS hl
          obtain ⟨m0l42, m1l42, m3l42, m4l42, m5l42, mFl42, mOl42, mSl42⟩ := id hM42
          have frl42 := FR.z hF42
          refine lv_iload_n hx hb dX12_pass_42 rfl (lv_at hl 0 rfl) ?_
          refine lv_iload_n hx hb dX12_pass_43 rfl (lv_at hl 3 rfl) ?_
          refine lv_icmp_ge (tgt := 62) hx hb dX12_pass_44 (by decide) (fun c_10 => ?_) (fun c_10 => ?_)
          ·
            have c_10 := (zle (x := iZ x1) (y := iZ v3_42) rfl rfl ⟨by omega, by omega⟩ ⟨by omega, by omega⟩).mp c_10
            refine lv_aload_n hx hb dX12_pass_62 rfl (lv_at hl 2 rfl) ?_
            refine lv_aload_n hx hb dX12_pass_63 rfl (lv_at hl 2 rfl) ?_
            refine va_get (D := D) (ci := 12) (v := .ref Ma) (C := RX12) (T := TX12) (N := 36) hx hb hts iX12 hown hK hP 0 rfl rfl 0 (by decide) (hts _ qf_X12_7) (fun _ h => h) rfl dX12_pass_64 ?_
            refine lv_iconst (v := iZ 3) hx hb dX12_pass_67 (by decide) ?_
            refine va_iald hx hb hK hP 1 1 rfl rfl (zin (e := 3) (n := 5340) ⟨by omega, by omega⟩ (by decide)) dX12_pass_68 ?_
            refine lv_topi (fun x_11 ex_11 => ?_)
            obtain rfl : x_11 = iZ (gz Afq42 3) := ex_11.trans (gz_eq ⟨by omega, by omega⟩)
            have h_12 := gz_rg Afq42 3
            refine CWV (As := [.int (iZ (gz Afq42 3))]) (rest := []) (wc := [(hm, .inr (12, [.ref Ma, .ref Mn, .int (iZ Mst), .long Mtp, .long Mbt, .ref Ms, .ref My, .ref Mt, .ref Mp, .ref Mx, .int (iZ Mtd), .int (iZ Msz), .int (iZ Mtk), .int (iZ Mfr), .int (iZ Men), .int (iZ Mva), .int (iZ Mfk), .int (iZ Mfp), .int (iZ Mfs), .int (iZ Mse), .int (iZ Mlt), .ref Mo, .int (iZ Mdp), .int (iZ Mct), .ref Mk, .ref Ml, .ref Mb, .ref Mh, .ref Mc, .int (iZ Mdr), .int (iZ Mrs), .ref Mz, .ref Mr, .ref Mq, .int (iZ Mit), .int (iZ Mmk)]))]) (wr := [(Ma, .inl (k 1, 5340, .inl Afq42))]) hx hb hml hown hts hKK hP hD hS hA (m_gives l D k hm Ma Mn Ms My Mt Mp Mx Mo Mk Ml Mb Mh Mc Mz Mr Mq Mst Mtd Msz Mtk Mfr Men Mva Mfk Mfp Mfs Mse Mlt Mdp Mct Mdr Mrs Mit Mmk Mtp Mbt (gz Afq42 3)) ci_X12_gives qm_X12_85 ⟨Nat.le_of_ble_eq_true rfl, Nat.le_of_ble_eq_true rfl⟩ ⟨Nat.le_of_ble_eq_true rfl, Nat.le_of_ble_eq_true rfl⟩ [0] [1] rfl rfl rfl rfl rfl (by decide) 0 rfl rfl rfl hl.1 rfl (Nat.le_of_ble_eq_true rfl) dX12_pass_69 (fun u_13 H locs hφ hP hD hS => ?_)
            obtain ⟨I_14, L_15, F_16, G_17⟩ := u_13
            refine W.eq (g2 := F0 m 72 ls [.int (iZ (gz Afq42 3))]) rfl ?_
            exact EWi hx hb hr hlocks hS (fun i => [(gz Afq42 3), 0].getD i 0, fun i => [0].getD i 0, fun i => [Afq42].getD i (fun _ => 0), fun i => [].getD i (fun _ => 0)) rfl ⟨(show M0 Afq42 from hM42), (show FR Afq42 Af from hF42)⟩ (hP.sub [1, 0] rfl) (hD.sub [1, 0] rfl rfl) dX12_pass_72
          ·
            have c_10 := mt (zle (x := iZ x1) (y := iZ v3_42) rfl rfl ⟨by omega, by omega⟩ ⟨by omega, by omega⟩).mpr c_10
            refine lv_iload_n hx hb dX12_pass_47 rfl (lv_at hl 1 rfl) ?_
            refine lv_if_eq (tgt := 62) hx hb dX12_pass_48 (by decide) (fun c_19 => ?_) (fun c_19 => ?_)
            ·
              have c_19 := (zeq (x := iZ v2_42) (y := iZ 0) rfl rfl ⟨by omega, by omega⟩ ⟨by omega, by omega⟩).mp c_19
              refine lv_aload_n hx hb dX12_pass_62 rfl (lv_at hl 2 rfl) ?_
              refine lv_aload_n hx hb dX12_pass_63 rfl (lv_at hl 2 rfl) ?_
              refine va_get (D := D) (ci := 12) (v := .ref Ma) (C := RX12) (T := TX12) (N := 36) hx hb hts iX12 hown hK hP 0 rfl rfl 0 (by decide) (hts _ qf_X12_7) (fun _ h => h) rfl dX12_pass_64 ?_
              refine lv_iconst (v := iZ 3) hx hb dX12_pass_67 (by decide) ?_
              refine va_iald hx hb hK hP 1 1 rfl rfl (zin (e := 3) (n := 5340) ⟨by omega, by omega⟩ (by decide)) dX12_pass_68 ?_
              refine lv_topi (fun x_20 ex_20 => ?_)
              obtain rfl : x_20 = iZ (gz Afq42 3) := ex_20.trans (gz_eq ⟨by omega, by omega⟩)
              have h_21 := gz_rg Afq42 3
              refine CWV (As := [.int (iZ (gz Afq42 3))]) (rest := []) (wc := [(hm, .inr (12, [.ref Ma, .ref Mn, .int (iZ Mst), .long Mtp, .long Mbt, .ref Ms, .ref My, .ref Mt, .ref Mp, .ref Mx, .int (iZ Mtd), .int (iZ Msz), .int (iZ Mtk), .int (iZ Mfr), .int (iZ Men), .int (iZ Mva), .int (iZ Mfk), .int (iZ Mfp), .int (iZ Mfs), .int (iZ Mse), .int (iZ Mlt), .ref Mo, .int (iZ Mdp), .int (iZ Mct), .ref Mk, .ref Ml, .ref Mb, .ref Mh, .ref Mc, .int (iZ Mdr), .int (iZ Mrs), .ref Mz, .ref Mr, .ref Mq, .int (iZ Mit), .int (iZ Mmk)]))]) (wr := [(Ma, .inl (k 1, 5340, .inl Afq42))]) hx hb hml hown hts hKK hP hD hS hA (m_gives l D k hm Ma Mn Ms My Mt Mp Mx Mo Mk Ml Mb Mh Mc Mz Mr Mq Mst Mtd Msz Mtk Mfr Men Mva Mfk Mfp Mfs Mse Mlt Mdp Mct Mdr Mrs Mit Mmk Mtp Mbt (gz Afq42 3)) ci_X12_gives qm_X12_85 ⟨Nat.le_of_ble_eq_true rfl, Nat.le_of_ble_eq_true rfl⟩ ⟨Nat.le_of_ble_eq_true rfl, Nat.le_of_ble_eq_true rfl⟩ [0] [1] rfl rfl rfl rfl rfl (by decide) 0 rfl rfl rfl hl.1 rfl (Nat.le_of_ble_eq_true rfl) dX12_pass_69 (fun u_22 H locs hφ hP hD hS => ?_)
              obtain ⟨I_23, L_24, F_25, G_26⟩ := u_22
              refine W.eq (g2 := F0 m 72 ls [.int (iZ (gz Afq42 3))]) rfl ?_
              exact EWi hx hb hr hlocks hS (fun i => [(gz Afq42 3), 0].getD i 0, fun i => [0].getD i 0, fun i => [Afq42].getD i (fun _ => 0), fun i => [].getD i (fun _ => 0)) rfl ⟨(show M0 Afq42 from hM42), (show FR Afq42 Af from hF42)⟩ (hP.sub [1, 0] rfl) (hD.sub [1, 0] rfl rfl) dX12_pass_72
            ·
              have c_19 := mt (zeq (x := iZ v2_42) (y := iZ 0) rfl rfl ⟨by omega, by omega⟩ ⟨by omega, by omega⟩).mpr c_19
              refine lv_aload_n hx hb dX12_pass_51 rfl (lv_at hl 2 rfl) ?_
              refine CWV (As := []) (rest := []) (wc := [(hm, .inr (12, [.ref Ma, .ref Mn, .int (iZ Mst), .long Mtp, .long Mbt, .ref Ms, .ref My, .ref Mt, .ref Mp, .ref Mx, .int (iZ Mtd), .int (iZ Msz), .int (iZ Mtk), .int (iZ Mfr), .int (iZ Men), .int (iZ Mva), .int (iZ Mfk), .int (iZ Mfp), .int (iZ Mfs), .int (iZ Mse), .int (iZ Mlt), .ref Mo, .int (iZ Mdp), .int (iZ Mct), .ref Mk, .ref Ml, .ref Mb, .ref Mh, .ref Mc, .int (iZ Mdr), .int (iZ Mrs), .ref Mz, .ref Mr, .ref Mq, .int (iZ Mit), .int (iZ Mmk)])), (Ma, .inl (k 1, 5340, .inl Afq42))]) (wr := []) hx hb hml hown hts hKK hP hD hS hA (m_goes l D k ([.ref Ma, .ref Mn, .int (iZ Mst), .long Mtp, .long Mbt, .ref Ms, .ref My, .ref Mt, .ref Mp, .ref Mx, .int (iZ Mtd), .int (iZ Msz), .int (iZ Mtk), .int (iZ Mfr), .int (iZ Men), .int (iZ Mva), .int (iZ Mfk), .int (iZ Mfp), .int (iZ Mfs), .int (iZ Mse), .int (iZ Mlt), .ref Mo, .int (iZ Mdp), .int (iZ Mct), .ref Mk, .ref Ml, .ref Mb, .ref Mh, .ref Mc, .int (iZ Mdr), .int (iZ Mrs), .ref Mz, .ref Mr, .ref Mq, .int (iZ Mit), .int (iZ Mmk)]) hm Ma Afq42 rfl hM42) ci_X12_goes qm_X12_371 ⟨Nat.le_of_ble_eq_true rfl, Nat.le_of_ble_eq_true rfl⟩ ⟨Nat.le_of_ble_eq_true rfl, Nat.le_of_ble_eq_true rfl⟩ [0, 1] [] rfl rfl rfl rfl rfl (by decide) 0 rfl rfl rfl hl.1 rfl (Nat.le_of_ble_eq_true rfl) dX12_pass_52 (fun u_28 H locs hφ hP hD hS => ?_)
              obtain ⟨I_29, L_30, F_31, G_32⟩ := u_28
              obtain ⟨p_34, p_35, p_36⟩ : (M0 (F_31 0)) ∧ (FR (F_31 0) Afq42) ∧ ((I_29 0) = 0 ∨ (I_29 0) = 1) := hφ
              obtain ⟨m0m_37, m1m_37, m3m_37, m4m_37, m5m_37, mFm_37, mOm_37, mSm_37⟩ := id p_34
              have frm_37 := FR.z p_35
              refine W.eq (g2 := F0 m 55 ls [.int (iZ (I_29 0))]) rfl ?_
              rcases (show ((I_29 0) = 0) ∨ ((I_29 0) = 1) from (by omega)) with s_38 | s_38
              ·
                rw [s_38]
                refine lv_istore_n (lv' := [(2, .int (iZ 0)), (3, .int (iZ v3_42)), (0, .ref hm), (1, .int (iZ x1))]) hx hb dX12_pass_55 rfl hl (by decide) rfl (fun ls hl => ?_)
                refine lv_iinc (v := iZ (v3_42 + 1)) (lv' := [(3, .int (iZ (v3_42 + 1))), (2, .int (iZ 0)), (0, .ref hm), (1, .int (iZ x1))]) hx hb dX12_pass_56 hl (k := 1) rfl (iZ_add v3_42 1) (by decide) rfl (fun ls hl => ?_)
                refine lv_goto (tgt := 42) hx hb dX12_pass_59 (by decide) ?_
                exact ih42  0 (v3_42 + 1) (F_31 0) _ _ _ (by omega) (show (0 ≤ (v3_42 + 1) ∧ (v3_42 + 1) ≤ (x1) + 1) from ⟨by omega, by omega⟩) (show 0 ≤ 0 ∧ 0 ≤ 1 from (by omega)) (show M0 (F_31 0) from p_34) (show FR (F_31 0) Af from (FR.tr p_35 hF42)) (hP.sub [0, 1] rfl) (hD.sub [0, 1] rfl rfl) hS (lv_sub hl [0, 1, 2, 3] rfl)
              ·
                rw [s_38]
                refine lv_istore_n (lv' := [(2, .int (iZ 1)), (3, .int (iZ v3_42)), (0, .ref hm), (1, .int (iZ x1))]) hx hb dX12_pass_55 rfl hl (by decide) rfl (fun ls hl => ?_)
                refine lv_iinc (v := iZ (v3_42 + 1)) (lv' := [(3, .int (iZ (v3_42 + 1))), (2, .int (iZ 1)), (0, .ref hm), (1, .int (iZ x1))]) hx hb dX12_pass_56 hl (k := 1) rfl (iZ_add v3_42 1) (by decide) rfl (fun ls hl => ?_)
                refine lv_goto (tgt := 42) hx hb dX12_pass_59 (by decide) ?_
                exact ih42  1 (v3_42 + 1) (F_31 0) _ _ _ (by omega) (show (0 ≤ (v3_42 + 1) ∧ (v3_42 + 1) ≤ (x1) + 1) from ⟨by omega, by omega⟩) (show 0 ≤ 1 ∧ 1 ≤ 1 from (by omega)) (show M0 (F_31 0) from p_34) (show FR (F_31 0) Af from (FR.tr p_35 hF42)) (hP.sub [0, 1] rfl) (hD.sub [0, 1] rfl rfl) hS (lv_sub hl [0, 1, 2, 3] rfl)
      exact HL42 104 1 0 Af _ _ _ (by omega) (show (0 ≤ 0 ∧ 0 ≤ (x1) + 1) from ⟨by omega, by omega⟩) (show 0 ≤ 1 ∧ 1 ≤ 1 from (by omega)) (show M0 Af from hM) (show FR Af Af from (FR.rf Af)) (hP.sub [0, 1] rfl) (hD.sub [0, 1] rfl rfl) hS (lv_sub hl [0, 1, 2, 3] rfl)
    ·
      have c_9 := mt (zle (x := iZ ((gz Af 3) + x1)) (y := iZ 400) rfl rfl ⟨by omega, by omega⟩ ⟨by omega, by omega⟩).mpr c_9
      refine lv_aload_n hx hb dX12_pass_32 rfl (lv_at hl 0 rfl) ?_
      refine lv_iconst (v := iZ 4) hx hb dX12_pass_33 (by decide) ?_
      refine CWV (As := [.int (iZ 4)]) (rest := []) (wc := [(hm, .inr (12, [.ref Ma, .ref Mn, .int (iZ Mst), .long Mtp, .long Mbt, .ref Ms, .ref My, .ref Mt, .ref Mp, .ref Mx, .int (iZ Mtd), .int (iZ Msz), .int (iZ Mtk), .int (iZ Mfr), .int (iZ Men), .int (iZ Mva), .int (iZ Mfk), .int (iZ Mfp), .int (iZ Mfs), .int (iZ Mse), .int (iZ Mlt), .ref Mo, .int (iZ Mdp), .int (iZ Mct), .ref Mk, .ref Ml, .ref Mb, .ref Mh, .ref Mc, .int (iZ Mdr), .int (iZ Mrs), .ref Mz, .ref Mr, .ref Mq, .int (iZ Mit), .int (iZ Mmk)]))]) (wr := [(Ma, .inl (k 1, 5340, .inl Af))]) hx hb hml hown hts hKK hP hD hS hA (m_refuse l D k hm Ma Mn Ms My Mt Mp Mx Mo Mk Ml Mb Mh Mc Mz Mr Mq Mst Mtd Msz Mtk Mfr Men Mva Mfk Mfp Mfs Mse Mlt Mdp Mct Mdr Mrs Mit Mmk Mtp Mbt 4) ci_X12_refuse qm_X12_81 ⟨Nat.le_of_ble_eq_true rfl, Nat.le_of_ble_eq_true rfl⟩ ⟨Nat.le_of_ble_eq_true rfl, Nat.le_of_ble_eq_true rfl⟩ [0] [1] rfl rfl rfl rfl rfl (by decide) 0 rfl rfl rfl hl.1 rfl (Nat.le_of_ble_eq_true rfl) dX12_pass_34 (fun u_39 H locs hφ hP hD hS => ?_)
      obtain ⟨I_40, L_41, F_42, G_43⟩ := u_39
      refine W.eq (g2 := F0 m 37 ls [.int (iZ (-1))]) rfl ?_
      exact EWi hx hb hr hlocks hS (fun i => [(-1), 4].getD i 0, fun i => [0].getD i 0, fun i => [Af].getD i (fun _ => 0), fun i => [].getD i (fun _ => 0)) rfl ⟨(show M0 Af from hM), (show FR Af Af from (FR.rf Af))⟩ (hP.sub [1, 0] rfl) (hD.sub [1, 0] rfl rfl) dX12_pass_37
  ·
    subst qz_1
    refine lv_if_ne (tgt := 18) hx hb dX12_pass_9 (by decide) (fun c => absurd (by decide) c) (fun _ => ?_)
    refine lv_aload_n hx hb dX12_pass_12 rfl (lv_at hl 0 rfl) ?_
    refine lv_iconst (v := iZ 1) hx hb dX12_pass_13 (by decide) ?_
    refine CWV (As := [.int (iZ 1)]) (rest := []) (wc := [(hm, .inr (12, [.ref Ma, .ref Mn, .int (iZ Mst), .long Mtp, .long Mbt, .ref Ms, .ref My, .ref Mt, .ref Mp, .ref Mx, .int (iZ Mtd), .int (iZ Msz), .int (iZ Mtk), .int (iZ Mfr), .int (iZ Men), .int (iZ Mva), .int (iZ Mfk), .int (iZ Mfp), .int (iZ Mfs), .int (iZ Mse), .int (iZ Mlt), .ref Mo, .int (iZ Mdp), .int (iZ Mct), .ref Mk, .ref Ml, .ref Mb, .ref Mh, .ref Mc, .int (iZ Mdr), .int (iZ Mrs), .ref Mz, .ref Mr, .ref Mq, .int (iZ Mit), .int (iZ Mmk)]))]) (wr := [(Ma, .inl (k 1, 5340, .inl Af))]) hx hb hml hown hts hKK hP hD hS hA (m_refuse l D k hm Ma Mn Ms My Mt Mp Mx Mo Mk Ml Mb Mh Mc Mz Mr Mq Mst Mtd Msz Mtk Mfr Men Mva Mfk Mfp Mfs Mse Mlt Mdp Mct Mdr Mrs Mit Mmk Mtp Mbt 1) ci_X12_refuse qm_X12_81 ⟨Nat.le_of_ble_eq_true rfl, Nat.le_of_ble_eq_true rfl⟩ ⟨Nat.le_of_ble_eq_true rfl, Nat.le_of_ble_eq_true rfl⟩ [0] [1] rfl rfl rfl rfl rfl (by decide) 0 rfl rfl rfl hl.1 rfl (Nat.le_of_ble_eq_true rfl) dX12_pass_14 (fun u_46 H locs hφ hP hD hS => ?_)
    obtain ⟨I_47, L_48, F_49, G_50⟩ := u_46
    refine W.eq (g2 := F0 m 17 ls [.int (iZ (-1))]) rfl ?_
    exact EWi hx hb hr hlocks hS (fun i => [(-1), 1].getD i 0, fun i => [0].getD i 0, fun i => [Af].getD i (fun _ => 0), fun i => [].getD i (fun _ => 0)) rfl ⟨(show M0 Af from hM), (show FR Af Af from (FR.rf Af))⟩ (hP.sub [1, 0] rfl) (hD.sub [1, 0] rfl rfl) dX12_pass_17
set_option maxHeartbeats 4000000 in
set_option maxRecDepth 100000 in
theorem q_wore (l : Launch) (D : va_G) (k : Nat → ClassId) (hm : Nat) (Ma : Nat) (Mn : Nat) (Ms : Nat) (My : Nat) (Mt : Nat) (Mp : Nat) (Mx : Nat) (Mo : Nat) (Mk : Nat) (Ml : Nat) (Mb : Nat) (Mh : Nat) (Mc : Nat) (Mz : Nat) (Mr : Nat) (Mq : Nat) (Mst : Int) (Mtd : Int) (Msz : Int) (Mtk : Int) (Mfr : Int) (Men : Int) (Mva : Int) (Mfk : Int) (Mfp : Int) (Mfs : Int) (Mse : Int) (Mlt : Int) (Mdp : Int) (Mct : Int) (Mdr : Int) (Mrs : Int) (Mit : Int) (Mmk : Int) (Mtp : Int64) (Mbt : Int64) (Af : Nat → Int32) (x1 : Int) (x2 : Int) (hM : M0 Af) (h9x1 : -2147483648 ≤ x1 ∧ x1 < 2147483648) (h9x2 : -2147483648 ≤ x2 ∧ x2 < 2147483648) : WD (σ := ((Nat → Int) × (Nat → Int64) × (Nat → Nat → Int32) × (Nat → Nat → Int64))) l yX12_wore cX12_wore 3 (some .int) 1 0 0 D k [.ref hm, .int (iZ x1), .int (iZ x2)] [(hm, .inr (12, [.ref Ma, .ref Mn, .int (iZ Mst), .long Mtp, .long Mbt, .ref Ms, .ref My, .ref Mt, .ref Mp, .ref Mx, .int (iZ Mtd), .int (iZ Msz), .int (iZ Mtk), .int (iZ Mfr), .int (iZ Men), .int (iZ Mva), .int (iZ Mfk), .int (iZ Mfp), .int (iZ Mfs), .int (iZ Mse), .int (iZ Mlt), .ref Mo, .int (iZ Mdp), .int (iZ Mct), .ref Mk, .ref Ml, .ref Mb, .ref Mh, .ref Mc, .int (iZ Mdr), .int (iZ Mrs), .ref Mz, .ref Mr, .ref Mq, .int (iZ Mit), .int (iZ Mmk)])), (Ma, .inl (k 1, 5340, .inl Af))] (fun u => some (.int (iZ (u.1 0)))) (fun _ => True) (fun u => [(hm, .inr (12, [.ref Ma, .ref Mn, .int (iZ (u.1 1)), .long Mtp, .long Mbt, .ref Ms, .ref My, .ref Mt, .ref Mp, .ref Mx, .int (iZ Mtd), .int (iZ Msz), .int (iZ Mtk), .int (iZ Mfr), .int (iZ Men), .int (iZ Mva), .int (iZ Mfk), .int (iZ Mfp), .int (iZ Mfs), .int (iZ Mse), .int (iZ Mlt), .ref Mo, .int (iZ Mdp), .int (iZ Mct), .ref Mk, .ref Ml, .ref Mb, .ref Mh, .ref Mc, .int (iZ Mdr), .int (iZ Mrs), .ref Mz, .ref Mr, .ref Mq, .int (iZ Mit), .int (iZ Mmk)])), (Ma, .inl (k 1, 5340, .inl Af))]) := by
  refine MW (by decide) (Nat.le_of_ble_eq_true rfl) (fun p e s m below meth c ls A hx hb hml hr hlocks hin hts hown hKK hP hD hS hA hl => ?_)
  have hK := hKK.1
  have hl : lv_has ls 3 [(0, .ref hm), (1, .int (iZ x1)), (2, .int (iZ x2))] := hl
  obtain ⟨m0, m1, m3, m4, m5, mF, mO, mS⟩ := id hM
  refine lv_aload_n hx hb dX12_wore_0 rfl (lv_at hl 0 rfl) ?_
  refine lv_iload_n hx hb dX12_wore_1 rfl (lv_at hl 1 rfl) ?_
  refine CPV (As := [.int (iZ x1)]) (rest := []) hx hb hml hown hts hKK hP (m_isRock l D k ([.ref Ma, .ref Mn, .int (iZ Mst), .long Mtp, .long Mbt, .ref Ms, .ref My, .ref Mt, .ref Mp, .ref Mx, .int (iZ Mtd), .int (iZ Msz), .int (iZ Mtk), .int (iZ Mfr), .int (iZ Men), .int (iZ Mva), .int (iZ Mfk), .int (iZ Mfp), .int (iZ Mfs), .int (iZ Mse), .int (iZ Mlt), .ref Mo, .int (iZ Mdp), .int (iZ Mct), .ref Mk, .ref Ml, .ref Mb, .ref Mh, .ref Mc, .int (iZ Mdr), .int (iZ Mrs), .ref Mz, .ref Mr, .ref Mq, .int (iZ Mit), .int (iZ Mmk)]) hm Ma Af x1 rfl hM ⟨by omega, by omega⟩) ci_X12_isRock qm_X12_243 ⟨Nat.le_of_ble_eq_true rfl, Nat.le_of_ble_eq_true rfl⟩ ⟨Nat.le_of_ble_eq_true rfl, Nat.le_of_ble_eq_true rfl⟩ 0 rfl rfl rfl hl.1 rfl (Nat.le_of_ble_eq_true rfl) dX12_wore_2 (fun z_1 hz_1 => ?_)
  rcases hz_1 with ⟨qz_1, hz_1⟩ | ⟨qz_1, hz_1⟩
  ·
    subst qz_1
    refine lv_if_eq (tgt := 37) hx hb dX12_wore_5 (by decide) (fun c => absurd c (by decide)) (fun _ => ?_)
    refine lv_iload_n hx hb dX12_wore_8 rfl (lv_at hl 2 rfl) ?_
    refine lv_i2l (v := (iZ x2).toInt64) hx hb dX12_wore_9 rfl ?_
    refine lv_lconst (v := 0) hx hb dX12_wore_10 rfl ?_
    refine lv_aload_n hx hb dX12_wore_11 rfl (lv_at hl 0 rfl) ?_
    refine va_get (D := D) (ci := 12) (v := .ref Ma) (C := RX12) (T := TX12) (N := 36) hx hb hts iX12 hown hK hP 0 rfl rfl 0 (by decide) (hts _ qf_X12_7) (fun _ h => h) rfl dX12_wore_12 ?_
    refine lv_iconst (v := iZ 3) hx hb dX12_wore_15 (by decide) ?_
    refine va_iald hx hb hK hP 1 1 rfl rfl (zin (e := 3) (n := 5340) ⟨by omega, by omega⟩ (by decide)) dX12_wore_16 ?_
    refine lv_topi (fun x_3 ex_3 => ?_)
    obtain rfl : x_3 = iZ (gz Af 3) := ex_3.trans (gz_eq ⟨by omega, by omega⟩)
    have h_4 := gz_rg Af 3
    refine lv_i2l (v := (iZ (gz Af 3)).toInt64) hx hb dX12_wore_17 rfl ?_
    refine CPS (As := [.long ((iZ x2).toInt64), .long 0, .long ((iZ (gz Af 3)).toInt64)]) (rest := []) hx hb hml hown hts hKK (hP.sub (ws' := []) [] rfl) (m_isFrom l D k ((iZ x2).toInt64) 0 ((iZ (gz Af 3)).toInt64)) ci_X12_isFrom qm_X12_295 ⟨Nat.le_of_ble_eq_true rfl, Nat.le_of_ble_eq_true rfl⟩ ⟨Nat.le_of_ble_eq_true rfl, Nat.le_of_ble_eq_true rfl⟩ rfl hl.1 rfl (Nat.le_of_ble_eq_true rfl) dX12_wore_18 (fun z_5 hz_5 => ?_)
    have tt_6_z_5 := tI64 (z := x2) ⟨by omega, by omega⟩
    have tt_7_z_5 := show (0 : Int64).toInt = 0 from (by decide)
    have tt_8_z_5 := tI64 (z := (gz Af 3)) ⟨by omega, by omega⟩
    rcases hz_5 with ⟨qz_5, hz_5⟩ | ⟨qz_5, hz_5⟩
    ·
      subst qz_5
      refine lv_if_eq (tgt := 37) hx hb dX12_wore_21 (by decide) (fun c => absurd c (by decide)) (fun _ => ?_)
      refine lv_aload_n hx hb dX12_wore_24 rfl (lv_at hl 0 rfl) ?_
      refine lv_aload_n hx hb dX12_wore_25 rfl (lv_at hl 0 rfl) ?_
      refine lv_iload_n hx hb dX12_wore_26 rfl (lv_at hl 1 rfl) ?_
      refine lv_iload_n hx hb dX12_wore_27 rfl (lv_at hl 2 rfl) ?_
      refine CPV (As := [.int (iZ x1), .int (iZ x2)]) (rest := [.ref hm]) hx hb hml hown hts hKK hP (m_wore l D k ([.ref Ma, .ref Mn, .int (iZ Mst), .long Mtp, .long Mbt, .ref Ms, .ref My, .ref Mt, .ref Mp, .ref Mx, .int (iZ Mtd), .int (iZ Msz), .int (iZ Mtk), .int (iZ Mfr), .int (iZ Men), .int (iZ Mva), .int (iZ Mfk), .int (iZ Mfp), .int (iZ Mfs), .int (iZ Mse), .int (iZ Mlt), .ref Mo, .int (iZ Mdp), .int (iZ Mct), .ref Mk, .ref Ml, .ref Mb, .ref Mh, .ref Mc, .int (iZ Mdr), .int (iZ Mrs), .ref Mz, .ref Mr, .ref Mq, .int (iZ Mit), .int (iZ Mmk)]) hm Ma Af x1 x2 rfl hM ⟨by omega, by omega⟩) ci_X12_woreIn qm_X12_363 ⟨Nat.le_of_ble_eq_true rfl, Nat.le_of_ble_eq_true rfl⟩ ⟨Nat.le_of_ble_eq_true rfl, Nat.le_of_ble_eq_true rfl⟩ 0 rfl rfl rfl hl.1 rfl (Nat.le_of_ble_eq_true rfl) dX12_wore_28 (fun z_10 hz_10 => ?_)
      have hbz_10 := hz_10.2
      refine CWV (As := [.int (iZ z_10)]) (rest := []) (wc := [(hm, .inr (12, [.ref Ma, .ref Mn, .int (iZ Mst), .long Mtp, .long Mbt, .ref Ms, .ref My, .ref Mt, .ref Mp, .ref Mx, .int (iZ Mtd), .int (iZ Msz), .int (iZ Mtk), .int (iZ Mfr), .int (iZ Men), .int (iZ Mva), .int (iZ Mfk), .int (iZ Mfp), .int (iZ Mfs), .int (iZ Mse), .int (iZ Mlt), .ref Mo, .int (iZ Mdp), .int (iZ Mct), .ref Mk, .ref Ml, .ref Mb, .ref Mh, .ref Mc, .int (iZ Mdr), .int (iZ Mrs), .ref Mz, .ref Mr, .ref Mq, .int (iZ Mit), .int (iZ Mmk)]))]) (wr := [(Ma, .inl (k 1, 5340, .inl Af))]) hx hb hml hown hts hKK hP hD hS hA (m_gives l D k hm Ma Mn Ms My Mt Mp Mx Mo Mk Ml Mb Mh Mc Mz Mr Mq Mst Mtd Msz Mtk Mfr Men Mva Mfk Mfp Mfs Mse Mlt Mdp Mct Mdr Mrs Mit Mmk Mtp Mbt z_10) ci_X12_gives qm_X12_85 ⟨Nat.le_of_ble_eq_true rfl, Nat.le_of_ble_eq_true rfl⟩ ⟨Nat.le_of_ble_eq_true rfl, Nat.le_of_ble_eq_true rfl⟩ [0] [1] rfl rfl rfl rfl rfl (by decide) 0 rfl rfl rfl hl.1 rfl (Nat.le_of_ble_eq_true rfl) dX12_wore_31 (fun u_11 H locs hφ hP hD hS => ?_)
      obtain ⟨I_12, L_13, F_14, G_15⟩ := u_11
      refine W.eq (g2 := F0 m 34 ls [.int (iZ z_10)]) rfl ?_
      refine lv_goto (tgt := 42) hx hb dX12_wore_34 (by decide) ?_
      exact EWi hx hb hr hlocks hS (fun i => [z_10, 0].getD i 0, fun i => [0].getD i 0, fun i => [].getD i (fun _ => 0), fun i => [].getD i (fun _ => 0)) rfl trivial (hP.sub [1, 0] rfl) (hD.sub [1, 0] rfl rfl) dX12_wore_42
    ·
      subst qz_5
      refine lv_if_eq (tgt := 37) hx hb dX12_wore_21 (by decide) (fun _ => ?_) (fun c => absurd (by decide) c)
      refine lv_aload_n hx hb dX12_wore_37 rfl (lv_at hl 0 rfl) ?_
      refine lv_iconst (v := iZ 1) hx hb dX12_wore_38 (by decide) ?_
      refine CWV (As := [.int (iZ 1)]) (rest := []) (wc := [(hm, .inr (12, [.ref Ma, .ref Mn, .int (iZ Mst), .long Mtp, .long Mbt, .ref Ms, .ref My, .ref Mt, .ref Mp, .ref Mx, .int (iZ Mtd), .int (iZ Msz), .int (iZ Mtk), .int (iZ Mfr), .int (iZ Men), .int (iZ Mva), .int (iZ Mfk), .int (iZ Mfp), .int (iZ Mfs), .int (iZ Mse), .int (iZ Mlt), .ref Mo, .int (iZ Mdp), .int (iZ Mct), .ref Mk, .ref Ml, .ref Mb, .ref Mh, .ref Mc, .int (iZ Mdr), .int (iZ Mrs), .ref Mz, .ref Mr, .ref Mq, .int (iZ Mit), .int (iZ Mmk)]))]) (wr := [(Ma, .inl (k 1, 5340, .inl Af))]) hx hb hml hown hts hKK hP hD hS hA (m_refuse l D k hm Ma Mn Ms My Mt Mp Mx Mo Mk Ml Mb Mh Mc Mz Mr Mq Mst Mtd Msz Mtk Mfr Men Mva Mfk Mfp Mfs Mse Mlt Mdp Mct Mdr Mrs Mit Mmk Mtp Mbt 1) ci_X12_refuse qm_X12_81 ⟨Nat.le_of_ble_eq_true rfl, Nat.le_of_ble_eq_true rfl⟩ ⟨Nat.le_of_ble_eq_true rfl, Nat.le_of_ble_eq_true rfl⟩ [0] [1] rfl rfl rfl rfl rfl (by decide) 0 rfl rfl rfl hl.1 rfl (Nat.le_of_ble_eq_true rfl) dX12_wore_39 (fun u_18 H locs hφ hP hD hS => ?_)
      obtain ⟨I_19, L_20, F_21, G_22⟩ := u_18
      refine W.eq (g2 := F0 m 42 ls [.int (iZ (-1))]) rfl ?_
      exact EWi hx hb hr hlocks hS (fun i => [(-1), 1].getD i 0, fun i => [0].getD i 0, fun i => [].getD i (fun _ => 0), fun i => [].getD i (fun _ => 0)) rfl trivial (hP.sub [1, 0] rfl) (hD.sub [1, 0] rfl rfl) dX12_wore_42
  ·
    subst qz_1
    refine lv_if_eq (tgt := 37) hx hb dX12_wore_5 (by decide) (fun _ => ?_) (fun c => absurd (by decide) c)
    refine lv_aload_n hx hb dX12_wore_37 rfl (lv_at hl 0 rfl) ?_
    refine lv_iconst (v := iZ 1) hx hb dX12_wore_38 (by decide) ?_
    refine CWV (As := [.int (iZ 1)]) (rest := []) (wc := [(hm, .inr (12, [.ref Ma, .ref Mn, .int (iZ Mst), .long Mtp, .long Mbt, .ref Ms, .ref My, .ref Mt, .ref Mp, .ref Mx, .int (iZ Mtd), .int (iZ Msz), .int (iZ Mtk), .int (iZ Mfr), .int (iZ Men), .int (iZ Mva), .int (iZ Mfk), .int (iZ Mfp), .int (iZ Mfs), .int (iZ Mse), .int (iZ Mlt), .ref Mo, .int (iZ Mdp), .int (iZ Mct), .ref Mk, .ref Ml, .ref Mb, .ref Mh, .ref Mc, .int (iZ Mdr), .int (iZ Mrs), .ref Mz, .ref Mr, .ref Mq, .int (iZ Mit), .int (iZ Mmk)]))]) (wr := [(Ma, .inl (k 1, 5340, .inl Af))]) hx hb hml hown hts hKK hP hD hS hA (m_refuse l D k hm Ma Mn Ms My Mt Mp Mx Mo Mk Ml Mb Mh Mc Mz Mr Mq Mst Mtd Msz Mtk Mfr Men Mva Mfk Mfp Mfs Mse Mlt Mdp Mct Mdr Mrs Mit Mmk Mtp Mbt 1) ci_X12_refuse qm_X12_81 ⟨Nat.le_of_ble_eq_true rfl, Nat.le_of_ble_eq_true rfl⟩ ⟨Nat.le_of_ble_eq_true rfl, Nat.le_of_ble_eq_true rfl⟩ [0] [1] rfl rfl rfl rfl rfl (by decide) 0 rfl rfl rfl hl.1 rfl (Nat.le_of_ble_eq_true rfl) dX12_wore_39 (fun u_25 H locs hφ hP hD hS => ?_)
    obtain ⟨I_26, L_27, F_28, G_29⟩ := u_25
    refine W.eq (g2 := F0 m 42 ls [.int (iZ (-1))]) rfl ?_
    exact EWi hx hb hr hlocks hS (fun i => [(-1), 1].getD i 0, fun i => [0].getD i 0, fun i => [].getD i (fun _ => 0), fun i => [].getD i (fun _ => 0)) rfl trivial (hP.sub [1, 0] rfl) (hD.sub [1, 0] rfl rfl) dX12_wore_42
set_option maxHeartbeats 4000000 in
set_option maxRecDepth 100000 in
theorem q_wear (l : Launch) (D : va_G) (k : Nat → ClassId) (hm : Nat) (Ma : Nat) (Mn : Nat) (Ms : Nat) (My : Nat) (Mt : Nat) (Mp : Nat) (Mx : Nat) (Mo : Nat) (Mk : Nat) (Ml : Nat) (Mb : Nat) (Mh : Nat) (Mc : Nat) (Mz : Nat) (Mr : Nat) (Mq : Nat) (Mst : Int) (Mtd : Int) (Msz : Int) (Mtk : Int) (Mfr : Int) (Men : Int) (Mva : Int) (Mfk : Int) (Mfp : Int) (Mfs : Int) (Mse : Int) (Mlt : Int) (Mdp : Int) (Mct : Int) (Mdr : Int) (Mrs : Int) (Mit : Int) (Mmk : Int) (Mtp : Int64) (Mbt : Int64) (Af : Nat → Int32) (x1 : Int) (x2 : Int) (hM : M0 Af) (h9x1 : -2147483648 ≤ x1 ∧ x1 < 2147483648) (h9x2 : -2147483648 ≤ x2 ∧ x2 < 2147483648) : WD (σ := ((Nat → Int) × (Nat → Int64) × (Nat → Nat → Int32) × (Nat → Nat → Int64))) l yX12_wear cX12_wear 3 (some .boolean) 1 0 0 D k [.ref hm, .int (iZ x1), .int (iZ x2)] [(hm, .inr (12, [.ref Ma, .ref Mn, .int (iZ Mst), .long Mtp, .long Mbt, .ref Ms, .ref My, .ref Mt, .ref Mp, .ref Mx, .int (iZ Mtd), .int (iZ Msz), .int (iZ Mtk), .int (iZ Mfr), .int (iZ Men), .int (iZ Mva), .int (iZ Mfk), .int (iZ Mfp), .int (iZ Mfs), .int (iZ Mse), .int (iZ Mlt), .ref Mo, .int (iZ Mdp), .int (iZ Mct), .ref Mk, .ref Ml, .ref Mb, .ref Mh, .ref Mc, .int (iZ Mdr), .int (iZ Mrs), .ref Mz, .ref Mr, .ref Mq, .int (iZ Mit), .int (iZ Mmk)])), (Ma, .inl (k 1, 5340, .inl Af))] (fun u => some (.int (iZ (u.1 0)))) (fun u => (M0 (u.2.2.1 0)) ∧ (FR (u.2.2.1 0) Af)) (fun u => [(hm, .inr (12, [.ref Ma, .ref Mn, .int (iZ (u.1 1)), .long Mtp, .long Mbt, .ref Ms, .ref My, .ref Mt, .ref Mp, .ref Mx, .int (iZ Mtd), .int (iZ Msz), .int (iZ Mtk), .int (iZ Mfr), .int (iZ Men), .int (iZ Mva), .int (iZ Mfk), .int (iZ Mfp), .int (iZ Mfs), .int (iZ Mse), .int (iZ Mlt), .ref Mo, .int (iZ Mdp), .int (iZ Mct), .ref Mk, .ref Ml, .ref Mb, .ref Mh, .ref Mc, .int (iZ Mdr), .int (iZ Mrs), .ref Mz, .ref Mr, .ref Mq, .int (iZ Mit), .int (iZ Mmk)])), (Ma, .inl (k 1, 5340, .inl (u.2.2.1 0)))]) := by
  refine MW (by decide) (Nat.le_of_ble_eq_true rfl) (fun p e s m below meth c ls A hx hb hml hr hlocks hin hts hown hKK hP hD hS hA hl => ?_)
  have hK := hKK.1
  have hl : lv_has ls 3 [(0, .ref hm), (1, .int (iZ x1)), (2, .int (iZ x2))] := hl
  obtain ⟨m0, m1, m3, m4, m5, mF, mO, mS⟩ := id hM
  refine lv_aload_n hx hb dX12_wear_0 rfl (lv_at hl 0 rfl) ?_
  refine lv_iload_n hx hb dX12_wear_1 rfl (lv_at hl 1 rfl) ?_
  refine CPV (As := [.int (iZ x1)]) (rest := []) hx hb hml hown hts hKK hP (m_isRock l D k ([.ref Ma, .ref Mn, .int (iZ Mst), .long Mtp, .long Mbt, .ref Ms, .ref My, .ref Mt, .ref Mp, .ref Mx, .int (iZ Mtd), .int (iZ Msz), .int (iZ Mtk), .int (iZ Mfr), .int (iZ Men), .int (iZ Mva), .int (iZ Mfk), .int (iZ Mfp), .int (iZ Mfs), .int (iZ Mse), .int (iZ Mlt), .ref Mo, .int (iZ Mdp), .int (iZ Mct), .ref Mk, .ref Ml, .ref Mb, .ref Mh, .ref Mc, .int (iZ Mdr), .int (iZ Mrs), .ref Mz, .ref Mr, .ref Mq, .int (iZ Mit), .int (iZ Mmk)]) hm Ma Af x1 rfl hM ⟨by omega, by omega⟩) ci_X12_isRock qm_X12_243 ⟨Nat.le_of_ble_eq_true rfl, Nat.le_of_ble_eq_true rfl⟩ ⟨Nat.le_of_ble_eq_true rfl, Nat.le_of_ble_eq_true rfl⟩ 0 rfl rfl rfl hl.1 rfl (Nat.le_of_ble_eq_true rfl) dX12_wear_2 (fun z_1 hz_1 => ?_)
  rcases hz_1 with ⟨qz_1, hz_1⟩ | ⟨qz_1, hz_1⟩
  ·
    subst qz_1
    refine lv_if_eq (tgt := 18) hx hb dX12_wear_5 (by decide) (fun c => absurd c (by decide)) (fun _ => ?_)
    refine lv_iload_n hx hb dX12_wear_8 rfl (lv_at hl 2 rfl) ?_
    refine lv_i2l (v := (iZ x2).toInt64) hx hb dX12_wear_9 rfl ?_
    refine lv_lconst (v := 0) hx hb dX12_wear_10 rfl ?_
    refine lv_lconst (v := 1) hx hb dX12_wear_11 rfl ?_
    refine CPS (As := [.long ((iZ x2).toInt64), .long 0, .long 1]) (rest := []) hx hb hml hown hts hKK (hP.sub (ws' := []) [] rfl) (m_isFrom l D k ((iZ x2).toInt64) 0 1) ci_X12_isFrom qm_X12_295 ⟨Nat.le_of_ble_eq_true rfl, Nat.le_of_ble_eq_true rfl⟩ ⟨Nat.le_of_ble_eq_true rfl, Nat.le_of_ble_eq_true rfl⟩ rfl hl.1 rfl (Nat.le_of_ble_eq_true rfl) dX12_wear_12 (fun z_3 hz_3 => ?_)
    have tt_4_z_3 := tI64 (z := x2) ⟨by omega, by omega⟩
    have tt_5_z_3 := show (0 : Int64).toInt = 0 from (by decide)
    have tt_6_z_3 := show (1 : Int64).toInt = 1 from (by decide)
    rcases hz_3 with ⟨qz_3, hz_3⟩ | ⟨qz_3, hz_3⟩
    ·
      subst qz_3
      refine lv_if_ne (tgt := 24) hx hb dX12_wear_15 (by decide) (fun _ => ?_) (fun c => absurd c (by decide))
      refine lv_aload_n hx hb dX12_wear_24 rfl (lv_at hl 0 rfl) ?_
      refine lv_iload_n hx hb dX12_wear_25 rfl (lv_at hl 1 rfl) ?_
      refine lv_iload_n hx hb dX12_wear_26 rfl (lv_at hl 2 rfl) ?_
      refine CWV (As := [.int (iZ x1), .int (iZ x2)]) (rest := []) (wc := [(hm, .inr (12, [.ref Ma, .ref Mn, .int (iZ Mst), .long Mtp, .long Mbt, .ref Ms, .ref My, .ref Mt, .ref Mp, .ref Mx, .int (iZ Mtd), .int (iZ Msz), .int (iZ Mtk), .int (iZ Mfr), .int (iZ Men), .int (iZ Mva), .int (iZ Mfk), .int (iZ Mfp), .int (iZ Mfs), .int (iZ Mse), .int (iZ Mlt), .ref Mo, .int (iZ Mdp), .int (iZ Mct), .ref Mk, .ref Ml, .ref Mb, .ref Mh, .ref Mc, .int (iZ Mdr), .int (iZ Mrs), .ref Mz, .ref Mr, .ref Mq, .int (iZ Mit), .int (iZ Mmk)])), (Ma, .inl (k 1, 5340, .inl Af))]) (wr := []) hx hb hml hown hts hKK hP hD hS hA (m_wears l D k ([.ref Ma, .ref Mn, .int (iZ Mst), .long Mtp, .long Mbt, .ref Ms, .ref My, .ref Mt, .ref Mp, .ref Mx, .int (iZ Mtd), .int (iZ Msz), .int (iZ Mtk), .int (iZ Mfr), .int (iZ Men), .int (iZ Mva), .int (iZ Mfk), .int (iZ Mfp), .int (iZ Mfs), .int (iZ Mse), .int (iZ Mlt), .ref Mo, .int (iZ Mdp), .int (iZ Mct), .ref Mk, .ref Ml, .ref Mb, .ref Mh, .ref Mc, .int (iZ Mdr), .int (iZ Mrs), .ref Mz, .ref Mr, .ref Mq, .int (iZ Mit), .int (iZ Mmk)]) hm Ma Af x1 x2 rfl hM) ci_X12_wears qm_X12_374 ⟨Nat.le_of_ble_eq_true rfl, Nat.le_of_ble_eq_true rfl⟩ ⟨Nat.le_of_ble_eq_true rfl, Nat.le_of_ble_eq_true rfl⟩ [0, 1] [] rfl rfl rfl rfl rfl (by decide) 0 rfl rfl rfl hl.1 rfl (Nat.le_of_ble_eq_true rfl) dX12_wear_27 (fun u_8 H locs hφ hP hD hS => ?_)
      obtain ⟨I_9, L_10, F_11, G_12⟩ := u_8
      obtain ⟨p_14, p_15⟩ : (M0 (F_11 0)) ∧ (FR (F_11 0) Af) := hφ
      obtain ⟨m0m_16, m1m_16, m3m_16, m4m_16, m5m_16, mFm_16, mOm_16, mSm_16⟩ := id p_14
      have frm_16 := FR.z p_15
      refine W.eq (g2 := F0 m 30 ls []) rfl ?_
      refine lv_aload_n hx hb dX12_wear_30 rfl (lv_at hl 0 rfl) ?_
      refine lv_iconst (v := iZ 0) hx hb dX12_wear_31 (by decide) ?_
      refine CWV (As := [.int (iZ 0)]) (rest := []) (wc := [(hm, .inr (12, [.ref Ma, .ref Mn, .int (iZ Mst), .long Mtp, .long Mbt, .ref Ms, .ref My, .ref Mt, .ref Mp, .ref Mx, .int (iZ Mtd), .int (iZ Msz), .int (iZ Mtk), .int (iZ Mfr), .int (iZ Men), .int (iZ Mva), .int (iZ Mfk), .int (iZ Mfp), .int (iZ Mfs), .int (iZ Mse), .int (iZ Mlt), .ref Mo, .int (iZ Mdp), .int (iZ Mct), .ref Mk, .ref Ml, .ref Mb, .ref Mh, .ref Mc, .int (iZ Mdr), .int (iZ Mrs), .ref Mz, .ref Mr, .ref Mq, .int (iZ Mit), .int (iZ Mmk)]))]) (wr := [(Ma, .inl (k 1, 5340, .inl (F_11 0)))]) hx hb hml hown hts hKK hP hD hS hA (m_is0 l D k hm Ma Mn Ms My Mt Mp Mx Mo Mk Ml Mb Mh Mc Mz Mr Mq Mst Mtd Msz Mtk Mfr Men Mva Mfk Mfp Mfs Mse Mlt Mdp Mct Mdr Mrs Mit Mmk Mtp Mbt) ci_X12_is qm_X12_89 ⟨Nat.le_of_ble_eq_true rfl, Nat.le_of_ble_eq_true rfl⟩ ⟨Nat.le_of_ble_eq_true rfl, Nat.le_of_ble_eq_true rfl⟩ [0] [1] rfl rfl rfl rfl rfl (by decide) 0 rfl rfl rfl hl.1 rfl (Nat.le_of_ble_eq_true rfl) dX12_wear_32 (fun u_17 H locs hφ hP hD hS => ?_)
      obtain ⟨I_18, L_19, F_20, G_21⟩ := u_17
      refine W.eq (g2 := F0 m 35 ls [.int (iZ 1)]) rfl ?_
      exact EWz hx hb hr hlocks hS (fun i => [1, 0].getD i 0, fun i => [0].getD i 0, fun i => [(F_11 0)].getD i (fun _ => 0), fun i => [].getD i (fun _ => 0)) rfl rfl ⟨(show M0 (F_11 0) from p_14), (show FR (F_11 0) Af from p_15)⟩ (hP.sub [1, 0] rfl) (hD.sub [1, 0] rfl rfl) dX12_wear_35
    ·
      subst qz_3
      refine lv_if_ne (tgt := 24) hx hb dX12_wear_15 (by decide) (fun c => absurd (by decide) c) (fun _ => ?_)
      refine lv_aload_n hx hb dX12_wear_18 rfl (lv_at hl 0 rfl) ?_
      refine lv_iconst (v := iZ 1) hx hb dX12_wear_19 (by decide) ?_
      refine CWV (As := [.int (iZ 1)]) (rest := []) (wc := [(hm, .inr (12, [.ref Ma, .ref Mn, .int (iZ Mst), .long Mtp, .long Mbt, .ref Ms, .ref My, .ref Mt, .ref Mp, .ref Mx, .int (iZ Mtd), .int (iZ Msz), .int (iZ Mtk), .int (iZ Mfr), .int (iZ Men), .int (iZ Mva), .int (iZ Mfk), .int (iZ Mfp), .int (iZ Mfs), .int (iZ Mse), .int (iZ Mlt), .ref Mo, .int (iZ Mdp), .int (iZ Mct), .ref Mk, .ref Ml, .ref Mb, .ref Mh, .ref Mc, .int (iZ Mdr), .int (iZ Mrs), .ref Mz, .ref Mr, .ref Mq, .int (iZ Mit), .int (iZ Mmk)]))]) (wr := [(Ma, .inl (k 1, 5340, .inl Af))]) hx hb hml hown hts hKK hP hD hS hA (m_isN l D k hm Ma Mn Ms My Mt Mp Mx Mo Mk Ml Mb Mh Mc Mz Mr Mq Mst Mtd Msz Mtk Mfr Men Mva Mfk Mfp Mfs Mse Mlt Mdp Mct Mdr Mrs Mit Mmk Mtp Mbt 1 ⟨by omega, by omega⟩ (by omega)) ci_X12_is qm_X12_89 ⟨Nat.le_of_ble_eq_true rfl, Nat.le_of_ble_eq_true rfl⟩ ⟨Nat.le_of_ble_eq_true rfl, Nat.le_of_ble_eq_true rfl⟩ [0] [1] rfl rfl rfl rfl rfl (by decide) 0 rfl rfl rfl hl.1 rfl (Nat.le_of_ble_eq_true rfl) dX12_wear_20 (fun u_24 H locs hφ hP hD hS => ?_)
      obtain ⟨I_25, L_26, F_27, G_28⟩ := u_24
      refine W.eq (g2 := F0 m 23 ls [.int (iZ 0)]) rfl ?_
      exact EWz hx hb hr hlocks hS (fun i => [0, 1].getD i 0, fun i => [0].getD i 0, fun i => [Af].getD i (fun _ => 0), fun i => [].getD i (fun _ => 0)) rfl rfl ⟨(show M0 Af from hM), (show FR Af Af from (FR.rf Af))⟩ (hP.sub [1, 0] rfl) (hD.sub [1, 0] rfl rfl) dX12_wear_23
  ·
    subst qz_1
    refine lv_if_eq (tgt := 18) hx hb dX12_wear_5 (by decide) (fun _ => ?_) (fun c => absurd (by decide) c)
    refine lv_aload_n hx hb dX12_wear_18 rfl (lv_at hl 0 rfl) ?_
    refine lv_iconst (v := iZ 1) hx hb dX12_wear_19 (by decide) ?_
    refine CWV (As := [.int (iZ 1)]) (rest := []) (wc := [(hm, .inr (12, [.ref Ma, .ref Mn, .int (iZ Mst), .long Mtp, .long Mbt, .ref Ms, .ref My, .ref Mt, .ref Mp, .ref Mx, .int (iZ Mtd), .int (iZ Msz), .int (iZ Mtk), .int (iZ Mfr), .int (iZ Men), .int (iZ Mva), .int (iZ Mfk), .int (iZ Mfp), .int (iZ Mfs), .int (iZ Mse), .int (iZ Mlt), .ref Mo, .int (iZ Mdp), .int (iZ Mct), .ref Mk, .ref Ml, .ref Mb, .ref Mh, .ref Mc, .int (iZ Mdr), .int (iZ Mrs), .ref Mz, .ref Mr, .ref Mq, .int (iZ Mit), .int (iZ Mmk)]))]) (wr := [(Ma, .inl (k 1, 5340, .inl Af))]) hx hb hml hown hts hKK hP hD hS hA (m_isN l D k hm Ma Mn Ms My Mt Mp Mx Mo Mk Ml Mb Mh Mc Mz Mr Mq Mst Mtd Msz Mtk Mfr Men Mva Mfk Mfp Mfs Mse Mlt Mdp Mct Mdr Mrs Mit Mmk Mtp Mbt 1 ⟨by omega, by omega⟩ (by omega)) ci_X12_is qm_X12_89 ⟨Nat.le_of_ble_eq_true rfl, Nat.le_of_ble_eq_true rfl⟩ ⟨Nat.le_of_ble_eq_true rfl, Nat.le_of_ble_eq_true rfl⟩ [0] [1] rfl rfl rfl rfl rfl (by decide) 0 rfl rfl rfl hl.1 rfl (Nat.le_of_ble_eq_true rfl) dX12_wear_20 (fun u_31 H locs hφ hP hD hS => ?_)
    obtain ⟨I_32, L_33, F_34, G_35⟩ := u_31
    refine W.eq (g2 := F0 m 23 ls [.int (iZ 0)]) rfl ?_
    exact EWz hx hb hr hlocks hS (fun i => [0, 1].getD i 0, fun i => [0].getD i 0, fun i => [Af].getD i (fun _ => 0), fun i => [].getD i (fun _ => 0)) rfl rfl ⟨(show M0 Af from hM), (show FR Af Af from (FR.rf Af))⟩ (hP.sub [1, 0] rfl) (hD.sub [1, 0] rfl rfl) dX12_wear_23
set_option maxHeartbeats 4000000 in
set_option maxRecDepth 100000 in
theorem q_fashion (l : Launch) (D : va_G) (k : Nat → ClassId) (hm : Nat) (Ma : Nat) (Mn : Nat) (Ms : Nat) (My : Nat) (Mt : Nat) (Mp : Nat) (Mx : Nat) (Mo : Nat) (Mk : Nat) (Ml : Nat) (Mb : Nat) (Mh : Nat) (Mc : Nat) (Mz : Nat) (Mr : Nat) (Mq : Nat) (Mst : Int) (Mtd : Int) (Msz : Int) (Mtk : Int) (Mfr : Int) (Men : Int) (Mva : Int) (Mfk : Int) (Mfp : Int) (Mfs : Int) (Mse : Int) (Mlt : Int) (Mdp : Int) (Mct : Int) (Mdr : Int) (Mrs : Int) (Mit : Int) (Mmk : Int) (Mtp : Int64) (Mbt : Int64) (Af : Nat → Int32) (x1 : Int) (x2 : Int) (hM : M0 Af) (h9x1 : -2147483648 ≤ x1 ∧ x1 < 2147483648) (h9x2 : -2147483648 ≤ x2 ∧ x2 < 2147483648) : WD (σ := ((Nat → Int) × (Nat → Int64) × (Nat → Nat → Int32) × (Nat → Nat → Int64))) l yX12_fashion cX12_fashion 3 (some .int) 7 0 0 D k [.ref hm, .int (iZ x1), .int (iZ x2)] [(hm, .inr (12, [.ref Ma, .ref Mn, .int (iZ Mst), .long Mtp, .long Mbt, .ref Ms, .ref My, .ref Mt, .ref Mp, .ref Mx, .int (iZ Mtd), .int (iZ Msz), .int (iZ Mtk), .int (iZ Mfr), .int (iZ Men), .int (iZ Mva), .int (iZ Mfk), .int (iZ Mfp), .int (iZ Mfs), .int (iZ Mse), .int (iZ Mlt), .ref Mo, .int (iZ Mdp), .int (iZ Mct), .ref Mk, .ref Ml, .ref Mb, .ref Mh, .ref Mc, .int (iZ Mdr), .int (iZ Mrs), .ref Mz, .ref Mr, .ref Mq, .int (iZ Mit), .int (iZ Mmk)])), (Ma, .inl (k 1, 5340, .inl Af))] (fun u => some (.int (iZ (u.1 0)))) (fun _ => True) (fun u => [(hm, .inr (12, [.ref Ma, .ref Mn, .int (iZ (u.1 1)), .long Mtp, .long Mbt, .ref Ms, .ref My, .ref Mt, .ref Mp, .ref Mx, .int (iZ Mtd), .int (iZ Msz), .int (iZ Mtk), .int (iZ Mfr), .int (iZ Men), .int (iZ Mva), .int (iZ Mfk), .int (iZ Mfp), .int (iZ Mfs), .int (iZ Mse), .int (iZ Mlt), .ref Mo, .int (iZ Mdp), .int (iZ Mct), .ref Mk, .ref Ml, .ref Mb, .ref Mh, .ref Mc, .int (iZ Mdr), .int (iZ Mrs), .ref Mz, .ref Mr, .ref Mq, .int (iZ Mit), .int (iZ Mmk)])), (Ma, .inl (k 1, 5340, .inl Af))]) := by
  refine MW (by decide) (Nat.le_of_ble_eq_true rfl) (fun p e s m below meth c ls A hx hb hml hr hlocks hin hts hown hKK hP hD hS hA hl => ?_)
  have hK := hKK.1
  have hl : lv_has ls 3 [(0, .ref hm), (1, .int (iZ x1)), (2, .int (iZ x2))] := hl
  obtain ⟨m0, m1, m3, m4, m5, mF, mO, mS⟩ := id hM
  refine lv_aload_n hx hb dX12_fashion_0 rfl (lv_at hl 0 rfl) ?_
  refine lv_iload_n hx hb dX12_fashion_1 rfl (lv_at hl 1 rfl) ?_
  refine lv_iload_n hx hb dX12_fashion_2 rfl (lv_at hl 2 rfl) ?_
  refine CPV (As := [.int (iZ x1), .int (iZ x2)]) (rest := []) hx hb hml hown hts hKK hP (m_areTwo l D k ([.ref Ma, .ref Mn, .int (iZ Mst), .long Mtp, .long Mbt, .ref Ms, .ref My, .ref Mt, .ref Mp, .ref Mx, .int (iZ Mtd), .int (iZ Msz), .int (iZ Mtk), .int (iZ Mfr), .int (iZ Men), .int (iZ Mva), .int (iZ Mfk), .int (iZ Mfp), .int (iZ Mfs), .int (iZ Mse), .int (iZ Mlt), .ref Mo, .int (iZ Mdp), .int (iZ Mct), .ref Mk, .ref Ml, .ref Mb, .ref Mh, .ref Mc, .int (iZ Mdr), .int (iZ Mrs), .ref Mz, .ref Mr, .ref Mq, .int (iZ Mit), .int (iZ Mmk)]) hm Ma Af x1 x2 rfl hM ⟨by omega, by omega⟩ ⟨by omega, by omega⟩) ci_X12_areTwo qm_X12_265 ⟨Nat.le_of_ble_eq_true rfl, Nat.le_of_ble_eq_true rfl⟩ ⟨Nat.le_of_ble_eq_true rfl, Nat.le_of_ble_eq_true rfl⟩ 0 rfl rfl rfl hl.1 rfl (Nat.le_of_ble_eq_true rfl) dX12_fashion_3 (fun z_1 hz_1 => ?_)
  rcases hz_1 with ⟨qz_1, hz_1⟩ | ⟨qz_1, hz_1⟩
  ·
    subst qz_1
    refine lv_if_eq (tgt := 28) hx hb dX12_fashion_6 (by decide) (fun c => absurd c (by decide)) (fun _ => ?_)
    refine lv_aload_n hx hb dX12_fashion_9 rfl (lv_at hl 0 rfl) ?_
    refine lv_aload_n hx hb dX12_fashion_10 rfl (lv_at hl 0 rfl) ?_
    refine lv_iload_n hx hb dX12_fashion_11 rfl (lv_at hl 1 rfl) ?_
    refine lv_iload_n hx hb dX12_fashion_12 rfl (lv_at hl 2 rfl) ?_
    refine lv_aload_n hx hb dX12_fashion_13 rfl (lv_at hl 0 rfl) ?_
    refine va_get (D := D) (ci := 12) (v := .ref Ma) (C := RX12) (T := TX12) (N := 36) hx hb hts iX12 hown hK hP 0 rfl rfl 0 (by decide) (hts _ qf_X12_7) (fun _ h => h) rfl dX12_fashion_14 ?_
    refine lv_iconst (v := iZ 3) hx hb dX12_fashion_17 (by decide) ?_
    refine va_iald hx hb hK hP 1 1 rfl rfl (zin (e := 3) (n := 5340) ⟨by omega, by omega⟩ (by decide)) dX12_fashion_18 ?_
    refine lv_topi (fun x_3 ex_3 => ?_)
    obtain rfl : x_3 = iZ (gz Af 3) := ex_3.trans (gz_eq ⟨by omega, by omega⟩)
    have h_4 := gz_rg Af 3
    refine CPV (As := [.int (iZ x1), .int (iZ x2), .int (iZ (gz Af 3))]) (rest := [.ref hm]) hx hb hml hown hts hKK hP (m_fseen l D k ([.ref Ma, .ref Mn, .int (iZ Mst), .long Mtp, .long Mbt, .ref Ms, .ref My, .ref Mt, .ref Mp, .ref Mx, .int (iZ Mtd), .int (iZ Msz), .int (iZ Mtk), .int (iZ Mfr), .int (iZ Men), .int (iZ Mva), .int (iZ Mfk), .int (iZ Mfp), .int (iZ Mfs), .int (iZ Mse), .int (iZ Mlt), .ref Mo, .int (iZ Mdp), .int (iZ Mct), .ref Mk, .ref Ml, .ref Mb, .ref Mh, .ref Mc, .int (iZ Mdr), .int (iZ Mrs), .ref Mz, .ref Mr, .ref Mq, .int (iZ Mit), .int (iZ Mmk)]) hm Ma Af x1 x2 (gz Af 3) rfl hM ⟨by omega, by omega⟩ ⟨by omega, by omega⟩ ⟨by omega, by omega⟩) ci_X12_fashionSeen qm_X12_366 ⟨Nat.le_of_ble_eq_true rfl, Nat.le_of_ble_eq_true rfl⟩ ⟨Nat.le_of_ble_eq_true rfl, Nat.le_of_ble_eq_true rfl⟩ 0 rfl rfl rfl hl.1 rfl (Nat.le_of_ble_eq_true rfl) dX12_fashion_19 (fun z_5 hz_5 => ?_)
    refine CWV (As := [.int (iZ z_5)]) (rest := []) (wc := [(hm, .inr (12, [.ref Ma, .ref Mn, .int (iZ Mst), .long Mtp, .long Mbt, .ref Ms, .ref My, .ref Mt, .ref Mp, .ref Mx, .int (iZ Mtd), .int (iZ Msz), .int (iZ Mtk), .int (iZ Mfr), .int (iZ Men), .int (iZ Mva), .int (iZ Mfk), .int (iZ Mfp), .int (iZ Mfs), .int (iZ Mse), .int (iZ Mlt), .ref Mo, .int (iZ Mdp), .int (iZ Mct), .ref Mk, .ref Ml, .ref Mb, .ref Mh, .ref Mc, .int (iZ Mdr), .int (iZ Mrs), .ref Mz, .ref Mr, .ref Mq, .int (iZ Mit), .int (iZ Mmk)]))]) (wr := [(Ma, .inl (k 1, 5340, .inl Af))]) hx hb hml hown hts hKK hP hD hS hA (m_orNone l D k hm Ma Mn Ms My Mt Mp Mx Mo Mk Ml Mb Mh Mc Mz Mr Mq Mst Mtd Msz Mtk Mfr Men Mva Mfk Mfp Mfs Mse Mlt Mdp Mct Mdr Mrs Mit Mmk Mtp Mbt z_5 ⟨by omega, by omega⟩) ci_X12_orNone qm_X12_290 ⟨Nat.le_of_ble_eq_true rfl, Nat.le_of_ble_eq_true rfl⟩ ⟨Nat.le_of_ble_eq_true rfl, Nat.le_of_ble_eq_true rfl⟩ [0] [1] rfl rfl rfl rfl rfl (by decide) 0 rfl rfl rfl hl.1 rfl (Nat.le_of_ble_eq_true rfl) dX12_fashion_22 (fun u_6 H locs hφ hP hD hS => ?_)
    obtain ⟨I_7, L_8, F_9, G_10⟩ := u_6
    have p_12 : ((z_5 : Int) = -1 ∧ (I_7 1) = 6) ∨ (¬ (z_5 : Int) = -1 ∧ (I_7 1) = 0) := hφ
    refine W.eq (g2 := F0 m 25 ls [.int (iZ z_5)]) rfl ?_
    refine lv_goto (tgt := 33) hx hb dX12_fashion_25 (by decide) ?_
    exact EWi hx hb hr hlocks hS (fun i => [z_5, (I_7 1)].getD i 0, fun i => [0].getD i 0, fun i => [].getD i (fun _ => 0), fun i => [].getD i (fun _ => 0)) rfl trivial (hP.sub [1, 0] rfl) (hD.sub [1, 0] rfl rfl) dX12_fashion_33
  ·
    subst qz_1
    refine lv_if_eq (tgt := 28) hx hb dX12_fashion_6 (by decide) (fun _ => ?_) (fun c => absurd (by decide) c)
    refine lv_aload_n hx hb dX12_fashion_28 rfl (lv_at hl 0 rfl) ?_
    refine lv_iconst (v := iZ 1) hx hb dX12_fashion_29 (by decide) ?_
    refine CWV (As := [.int (iZ 1)]) (rest := []) (wc := [(hm, .inr (12, [.ref Ma, .ref Mn, .int (iZ Mst), .long Mtp, .long Mbt, .ref Ms, .ref My, .ref Mt, .ref Mp, .ref Mx, .int (iZ Mtd), .int (iZ Msz), .int (iZ Mtk), .int (iZ Mfr), .int (iZ Men), .int (iZ Mva), .int (iZ Mfk), .int (iZ Mfp), .int (iZ Mfs), .int (iZ Mse), .int (iZ Mlt), .ref Mo, .int (iZ Mdp), .int (iZ Mct), .ref Mk, .ref Ml, .ref Mb, .ref Mh, .ref Mc, .int (iZ Mdr), .int (iZ Mrs), .ref Mz, .ref Mr, .ref Mq, .int (iZ Mit), .int (iZ Mmk)]))]) (wr := [(Ma, .inl (k 1, 5340, .inl Af))]) hx hb hml hown hts hKK hP hD hS hA (m_refuse l D k hm Ma Mn Ms My Mt Mp Mx Mo Mk Ml Mb Mh Mc Mz Mr Mq Mst Mtd Msz Mtk Mfr Men Mva Mfk Mfp Mfs Mse Mlt Mdp Mct Mdr Mrs Mit Mmk Mtp Mbt 1) ci_X12_refuse qm_X12_81 ⟨Nat.le_of_ble_eq_true rfl, Nat.le_of_ble_eq_true rfl⟩ ⟨Nat.le_of_ble_eq_true rfl, Nat.le_of_ble_eq_true rfl⟩ [0] [1] rfl rfl rfl rfl rfl (by decide) 0 rfl rfl rfl hl.1 rfl (Nat.le_of_ble_eq_true rfl) dX12_fashion_30 (fun u_14 H locs hφ hP hD hS => ?_)
    obtain ⟨I_15, L_16, F_17, G_18⟩ := u_14
    refine W.eq (g2 := F0 m 33 ls [.int (iZ (-1))]) rfl ?_
    exact EWi hx hb hr hlocks hS (fun i => [(-1), 1].getD i 0, fun i => [0].getD i 0, fun i => [].getD i (fun _ => 0), fun i => [].getD i (fun _ => 0)) rfl trivial (hP.sub [1, 0] rfl) (hD.sub [1, 0] rfl rfl) dX12_fashion_33
set_option maxHeartbeats 4000000 in
set_option maxRecDepth 100000 in
theorem m_followsOf (l : Launch) (D : va_G) (k : Nat → ClassId) (fs : List Value) (hm : Nat) (Ma : Nat) (Af : Nat → Int32) (x : Int) (y : Int) (f0 : fs[0]? = some (.ref Ma)) (hM : M0 Af) (h9x : 0 ≤ x ∧ x < gz Af 0) (h9y : 0 ≤ y ∧ y < gz Af 0) : RP l yX12_followsOf cX12_followsOf 5 (some .int) 7 D k [.ref hm, .int (iZ x), .int (iZ y)] [(hm, .inr (12, fs)), (Ma, .inl (k 1, 5340, .inl Af))] (fun z => 0 ≤ z ∧ z ≤ 400) := by
  refine MRP (by decide) (Nat.le_of_ble_eq_true rfl) (fun p e s m below meth c ls hx hb hml hr hlocks hts hown hKK hP hl => ?_)
  have hK := hKK.1
  have hl : lv_has ls 5 [(0, .ref hm), (1, .int (iZ x)), (2, .int (iZ y))] := hl
  obtain ⟨m0, m1, m3, m4, m5, mF, mO, mS⟩ := id hM
  refine lv_iconst (v := iZ 0) hx hb dX12_followsOf_0 (by decide) ?_
  refine lv_istore_n (lv' := [(3, .int (iZ 0)), (0, .ref hm), (1, .int (iZ x)), (2, .int (iZ y))]) hx hb dX12_followsOf_1 rfl hl (by decide) rfl (fun ls hl => ?_)
  refine lv_iconst (v := iZ 1) hx hb dX12_followsOf_2 (by decide) ?_
  refine lv_istore (lv' := [(4, .int (iZ 1)), (3, .int (iZ 0)), (0, .ref hm), (1, .int (iZ x)), (2, .int (iZ y))]) hx hb dX12_followsOf_3 hl (by decide) rfl (fun ls hl => ?_)
  have HL5 : ∀ (fu : Nat) (v3_5 : Int) (v4_5 : Int) (ls : Array Slot), ((gz Af 3) + 2 - v4_5) < (fu : Int) → ((1 ≤ v4_5 ∧ v4_5 ≤ (gz Af 3) + 1)) → (0 ≤ v3_5 ∧ v3_5 < v4_5) → lv_has ls 5 [(4, .int (iZ v4_5)), (3, .int (iZ v3_5)), (0, .ref hm), (1, .int (iZ x)), (2, .int (iZ y))] → W p l e (rj 7 0 0) s m [.ref hm, .int (iZ x), .int (iZ y)].toArray below meth c s.heap [] 0 0 (MQ below (QcP (fun z => 0 ≤ z ∧ z ≤ 400)) [.ref hm, .int (iZ x), .int (iZ y)].toArray s 0 0 (fun _ => False)) (F0 m 5 ls []) := by
    intro fu
    induction fu with
    | zero => intro v3_5 v4_5 ls hμ5 hi5 hf0_5 hl; exact absurd hμ5 (by omega)
    | succ fu ih5 =>
      intro v3_5 v4_5 ls hμ5 hi5 hf0_5 hl
      refine lv_iload hx hb dX12_followsOf_5 (lv_at hl 0 rfl) ?_
      refine lv_aload_n hx hb dX12_followsOf_7 rfl (lv_at hl 2 rfl) ?_
      refine va_get (D := D) (ci := 12) (v := .ref Ma) (C := RX12) (T := TX12) (N := 36) hx hb hts iX12 hown hK hP 0 rfl rfl 0 (by decide) (hts _ qf_X12_7) (fun _ h => h) f0 dX12_followsOf_8 ?_
      refine lv_iconst (v := iZ 3) hx hb dX12_followsOf_11 (by decide) ?_
      refine va_iald hx hb hK hP 1 1 rfl rfl (zin (e := 3) (n := 5340) ⟨by omega, by omega⟩ (by decide)) dX12_followsOf_12 ?_
      refine lv_topi (fun x_1 ex_1 => ?_)
      obtain rfl : x_1 = iZ (gz Af 3) := ex_1.trans (gz_eq ⟨by omega, by omega⟩)
      have h_2 := gz_rg Af 3
      refine lv_icmp_gt (tgt := 48) hx hb dX12_followsOf_13 (by decide) (fun c_3 => ?_) (fun c_3 => ?_)
      ·
        have c_3 := (zlt (x := iZ (gz Af 3)) (y := iZ v4_5) rfl rfl ⟨by omega, by omega⟩ ⟨by omega, by omega⟩).mp c_3
        refine lv_iload_n hx hb dX12_followsOf_48 rfl (lv_at hl 1 rfl) ?_
        exact EPi hx hb hr hlocks (by omega) dX12_followsOf_49
      ·
        have c_3 := mt (zlt (x := iZ (gz Af 3)) (y := iZ v4_5) rfl rfl ⟨by omega, by omega⟩ ⟨by omega, by omega⟩).mpr c_3
        refine lv_iload_n hx hb dX12_followsOf_16 rfl (lv_at hl 1 rfl) ?_
        refine lv_aload_n hx hb dX12_followsOf_17 rfl (lv_at hl 2 rfl) ?_
        refine lv_iload_n hx hb dX12_followsOf_18 rfl (lv_at hl 3 rfl) ?_
        refine lv_iload_n hx hb dX12_followsOf_19 rfl (lv_at hl 4 rfl) ?_
        refine lv_iload hx hb dX12_followsOf_20 (lv_at hl 0 rfl) ?_
        refine CPV (As := [.int (iZ x), .int (iZ y), .int (iZ v4_5)]) (rest := [.int (iZ v3_5)]) hx hb hml hown hts hKK hP (m_fseen l D k fs hm Ma Af x y v4_5 f0 hM ⟨by omega, by omega⟩ ⟨by omega, by omega⟩ ⟨by omega, by omega⟩) ci_X12_fashionSeen qm_X12_366 ⟨Nat.le_of_ble_eq_true rfl, Nat.le_of_ble_eq_true rfl⟩ ⟨Nat.le_of_ble_eq_true rfl, Nat.le_of_ble_eq_true rfl⟩ 0 rfl rfl rfl hl.1 rfl (Nat.le_of_ble_eq_true rfl) dX12_followsOf_22 (fun z_4 hz_4 => ?_)
        refine lv_aload_n hx hb dX12_followsOf_25 rfl (lv_at hl 2 rfl) ?_
        refine lv_iload_n hx hb dX12_followsOf_26 rfl (lv_at hl 3 rfl) ?_
        refine lv_iload hx hb dX12_followsOf_27 (lv_at hl 0 rfl) ?_
        refine CPV (As := [.int (iZ x), .int (iZ v4_5)]) (rest := [.int (iZ z_4), .int (iZ v3_5)]) hx hb hml hown hts hKK hP (m_wore l D k fs hm Ma Af x v4_5 f0 hM ⟨by omega, by omega⟩) ci_X12_woreIn qm_X12_363 ⟨Nat.le_of_ble_eq_true rfl, Nat.le_of_ble_eq_true rfl⟩ ⟨Nat.le_of_ble_eq_true rfl, Nat.le_of_ble_eq_true rfl⟩ 0 rfl rfl rfl hl.1 rfl (Nat.le_of_ble_eq_true rfl) dX12_followsOf_29 (fun z_5 hz_5 => ?_)
        have hbz_5 := hz_5.2
        refine lv_icmp_ne (tgt := 39) hx hb dX12_followsOf_32 (by decide) (fun c_6 => ?_) (fun c_6 => ?_)
        ·
          have c_6 := mt (zeq (x := iZ z_4) (y := iZ z_5) rfl rfl ⟨by omega, by omega⟩ ⟨by omega, by omega⟩).mpr c_6
          refine lv_iconst (v := iZ 0) hx hb dX12_followsOf_39 (by decide) ?_
          refine lv_iadd hx hb dX12_followsOf_40 ?_
          refine lv_topi (fun x_7 ex_7 => ?_)
          obtain rfl : x_7 = iZ (v3_5 + 0) := ex_7.trans (iZ_add v3_5 0)
          refine lv_istore_n (lv' := [(3, .int (iZ (v3_5 + 0))), (4, .int (iZ v4_5)), (0, .ref hm), (1, .int (iZ x)), (2, .int (iZ y))]) hx hb dX12_followsOf_41 rfl hl (by decide) rfl (fun ls hl => ?_)
          refine lv_iinc (v := iZ (v4_5 + 1)) (lv' := [(4, .int (iZ (v4_5 + 1))), (3, .int (iZ (v3_5 + 0))), (0, .ref hm), (1, .int (iZ x)), (2, .int (iZ y))]) hx hb dX12_followsOf_42 hl (k := 1) rfl (iZ_add v4_5 1) (by decide) rfl (fun ls hl => ?_)
          refine lv_goto (tgt := 5) hx hb dX12_followsOf_45 (by decide) ?_
          exact ih5  (v3_5 + 0) (v4_5 + 1) _ (by omega) (show (1 ≤ (v4_5 + 1) ∧ (v4_5 + 1) ≤ (gz Af 3) + 1) from ⟨by omega, by omega⟩) (show 0 ≤ (v3_5 + 0) ∧ (v3_5 + 0) < (v4_5 + 1) from (by omega)) (lv_sub hl [0, 1, 2, 3, 4] rfl)
        ·
          have c_6 := (zeq (x := iZ z_4) (y := iZ z_5) rfl rfl ⟨by omega, by omega⟩ ⟨by omega, by omega⟩).mp c_6
          refine lv_iconst (v := iZ 1) hx hb dX12_followsOf_35 (by decide) ?_
          refine lv_goto (tgt := 40) hx hb dX12_followsOf_36 (by decide) ?_
          refine lv_iadd hx hb dX12_followsOf_40 ?_
          refine lv_topi (fun x_8 ex_8 => ?_)
          obtain rfl : x_8 = iZ (v3_5 + 1) := ex_8.trans (iZ_add v3_5 1)
          refine lv_istore_n (lv' := [(3, .int (iZ (v3_5 + 1))), (4, .int (iZ v4_5)), (0, .ref hm), (1, .int (iZ x)), (2, .int (iZ y))]) hx hb dX12_followsOf_41 rfl hl (by decide) rfl (fun ls hl => ?_)
          refine lv_iinc (v := iZ (v4_5 + 1)) (lv' := [(4, .int (iZ (v4_5 + 1))), (3, .int (iZ (v3_5 + 1))), (0, .ref hm), (1, .int (iZ x)), (2, .int (iZ y))]) hx hb dX12_followsOf_42 hl (k := 1) rfl (iZ_add v4_5 1) (by decide) rfl (fun ls hl => ?_)
          refine lv_goto (tgt := 5) hx hb dX12_followsOf_45 (by decide) ?_
          exact ih5  (v3_5 + 1) (v4_5 + 1) _ (by omega) (show (1 ≤ (v4_5 + 1) ∧ (v4_5 + 1) ≤ (gz Af 3) + 1) from ⟨by omega, by omega⟩) (show 0 ≤ (v3_5 + 1) ∧ (v3_5 + 1) < (v4_5 + 1) from (by omega)) (lv_sub hl [0, 1, 2, 3, 4] rfl)
  exact HL5 404 0 1 _ (by omega) (show (1 ≤ 1 ∧ 1 ≤ (gz Af 3) + 1) from ⟨by omega, by omega⟩) (show 0 ≤ 0 ∧ 0 < 1 from (by omega)) (lv_sub hl [0, 1, 2, 3, 4] rfl)
set_option maxHeartbeats 4000000 in
set_option maxRecDepth 100000 in
theorem q_follows (l : Launch) (D : va_G) (k : Nat → ClassId) (hm : Nat) (Ma : Nat) (Mn : Nat) (Ms : Nat) (My : Nat) (Mt : Nat) (Mp : Nat) (Mx : Nat) (Mo : Nat) (Mk : Nat) (Ml : Nat) (Mb : Nat) (Mh : Nat) (Mc : Nat) (Mz : Nat) (Mr : Nat) (Mq : Nat) (Mst : Int) (Mtd : Int) (Msz : Int) (Mtk : Int) (Mfr : Int) (Men : Int) (Mva : Int) (Mfk : Int) (Mfp : Int) (Mfs : Int) (Mse : Int) (Mlt : Int) (Mdp : Int) (Mct : Int) (Mdr : Int) (Mrs : Int) (Mit : Int) (Mmk : Int) (Mtp : Int64) (Mbt : Int64) (Af : Nat → Int32) (x1 : Int) (x2 : Int) (hM : M0 Af) (h9x1 : -2147483648 ≤ x1 ∧ x1 < 2147483648) (h9x2 : -2147483648 ≤ x2 ∧ x2 < 2147483648) : WD (σ := ((Nat → Int) × (Nat → Int64) × (Nat → Nat → Int32) × (Nat → Nat → Int64))) l yX12_follows cX12_follows 3 (some .int) 8 0 0 D k [.ref hm, .int (iZ x1), .int (iZ x2)] [(hm, .inr (12, [.ref Ma, .ref Mn, .int (iZ Mst), .long Mtp, .long Mbt, .ref Ms, .ref My, .ref Mt, .ref Mp, .ref Mx, .int (iZ Mtd), .int (iZ Msz), .int (iZ Mtk), .int (iZ Mfr), .int (iZ Men), .int (iZ Mva), .int (iZ Mfk), .int (iZ Mfp), .int (iZ Mfs), .int (iZ Mse), .int (iZ Mlt), .ref Mo, .int (iZ Mdp), .int (iZ Mct), .ref Mk, .ref Ml, .ref Mb, .ref Mh, .ref Mc, .int (iZ Mdr), .int (iZ Mrs), .ref Mz, .ref Mr, .ref Mq, .int (iZ Mit), .int (iZ Mmk)])), (Ma, .inl (k 1, 5340, .inl Af))] (fun u => some (.int (iZ (u.1 0)))) (fun _ => True) (fun u => [(hm, .inr (12, [.ref Ma, .ref Mn, .int (iZ (u.1 1)), .long Mtp, .long Mbt, .ref Ms, .ref My, .ref Mt, .ref Mp, .ref Mx, .int (iZ Mtd), .int (iZ Msz), .int (iZ Mtk), .int (iZ Mfr), .int (iZ Men), .int (iZ Mva), .int (iZ Mfk), .int (iZ Mfp), .int (iZ Mfs), .int (iZ Mse), .int (iZ Mlt), .ref Mo, .int (iZ Mdp), .int (iZ Mct), .ref Mk, .ref Ml, .ref Mb, .ref Mh, .ref Mc, .int (iZ Mdr), .int (iZ Mrs), .ref Mz, .ref Mr, .ref Mq, .int (iZ Mit), .int (iZ Mmk)])), (Ma, .inl (k 1, 5340, .inl Af))]) := by
  refine MW (by decide) (Nat.le_of_ble_eq_true rfl) (fun p e s m below meth c ls A hx hb hml hr hlocks hin hts hown hKK hP hD hS hA hl => ?_)
  have hK := hKK.1
  have hl : lv_has ls 3 [(0, .ref hm), (1, .int (iZ x1)), (2, .int (iZ x2))] := hl
  obtain ⟨m0, m1, m3, m4, m5, mF, mO, mS⟩ := id hM
  refine lv_aload_n hx hb dX12_follows_0 rfl (lv_at hl 0 rfl) ?_
  refine lv_iload_n hx hb dX12_follows_1 rfl (lv_at hl 1 rfl) ?_
  refine lv_iload_n hx hb dX12_follows_2 rfl (lv_at hl 2 rfl) ?_
  refine CPV (As := [.int (iZ x1), .int (iZ x2)]) (rest := []) hx hb hml hown hts hKK hP (m_areTwo l D k ([.ref Ma, .ref Mn, .int (iZ Mst), .long Mtp, .long Mbt, .ref Ms, .ref My, .ref Mt, .ref Mp, .ref Mx, .int (iZ Mtd), .int (iZ Msz), .int (iZ Mtk), .int (iZ Mfr), .int (iZ Men), .int (iZ Mva), .int (iZ Mfk), .int (iZ Mfp), .int (iZ Mfs), .int (iZ Mse), .int (iZ Mlt), .ref Mo, .int (iZ Mdp), .int (iZ Mct), .ref Mk, .ref Ml, .ref Mb, .ref Mh, .ref Mc, .int (iZ Mdr), .int (iZ Mrs), .ref Mz, .ref Mr, .ref Mq, .int (iZ Mit), .int (iZ Mmk)]) hm Ma Af x1 x2 rfl hM ⟨by omega, by omega⟩ ⟨by omega, by omega⟩) ci_X12_areTwo qm_X12_265 ⟨Nat.le_of_ble_eq_true rfl, Nat.le_of_ble_eq_true rfl⟩ ⟨Nat.le_of_ble_eq_true rfl, Nat.le_of_ble_eq_true rfl⟩ 0 rfl rfl rfl hl.1 rfl (Nat.le_of_ble_eq_true rfl) dX12_follows_3 (fun z_1 hz_1 => ?_)
  rcases hz_1 with ⟨qz_1, hz_1⟩ | ⟨qz_1, hz_1⟩
  ·
    subst qz_1
    refine lv_if_eq (tgt := 22) hx hb dX12_follows_6 (by decide) (fun c => absurd c (by decide)) (fun _ => ?_)
    refine lv_aload_n hx hb dX12_follows_9 rfl (lv_at hl 0 rfl) ?_
    refine lv_aload_n hx hb dX12_follows_10 rfl (lv_at hl 0 rfl) ?_
    refine lv_iload_n hx hb dX12_follows_11 rfl (lv_at hl 1 rfl) ?_
    refine lv_iload_n hx hb dX12_follows_12 rfl (lv_at hl 2 rfl) ?_
    refine CPV (As := [.int (iZ x1), .int (iZ x2)]) (rest := [.ref hm]) hx hb hml hown hts hKK hP (m_followsOf l D k ([.ref Ma, .ref Mn, .int (iZ Mst), .long Mtp, .long Mbt, .ref Ms, .ref My, .ref Mt, .ref Mp, .ref Mx, .int (iZ Mtd), .int (iZ Msz), .int (iZ Mtk), .int (iZ Mfr), .int (iZ Men), .int (iZ Mva), .int (iZ Mfk), .int (iZ Mfp), .int (iZ Mfs), .int (iZ Mse), .int (iZ Mlt), .ref Mo, .int (iZ Mdp), .int (iZ Mct), .ref Mk, .ref Ml, .ref Mb, .ref Mh, .ref Mc, .int (iZ Mdr), .int (iZ Mrs), .ref Mz, .ref Mr, .ref Mq, .int (iZ Mit), .int (iZ Mmk)]) hm Ma Af x1 x2 rfl hM ⟨by omega, by omega⟩ ⟨by omega, by omega⟩) ci_X12_followsOf qm_X12_377 ⟨Nat.le_of_ble_eq_true rfl, Nat.le_of_ble_eq_true rfl⟩ ⟨Nat.le_of_ble_eq_true rfl, Nat.le_of_ble_eq_true rfl⟩ 0 rfl rfl rfl hl.1 rfl (Nat.le_of_ble_eq_true rfl) dX12_follows_13 (fun z_3 hz_3 => ?_)
    refine CWV (As := [.int (iZ z_3)]) (rest := []) (wc := [(hm, .inr (12, [.ref Ma, .ref Mn, .int (iZ Mst), .long Mtp, .long Mbt, .ref Ms, .ref My, .ref Mt, .ref Mp, .ref Mx, .int (iZ Mtd), .int (iZ Msz), .int (iZ Mtk), .int (iZ Mfr), .int (iZ Men), .int (iZ Mva), .int (iZ Mfk), .int (iZ Mfp), .int (iZ Mfs), .int (iZ Mse), .int (iZ Mlt), .ref Mo, .int (iZ Mdp), .int (iZ Mct), .ref Mk, .ref Ml, .ref Mb, .ref Mh, .ref Mc, .int (iZ Mdr), .int (iZ Mrs), .ref Mz, .ref Mr, .ref Mq, .int (iZ Mit), .int (iZ Mmk)]))]) (wr := [(Ma, .inl (k 1, 5340, .inl Af))]) hx hb hml hown hts hKK hP hD hS hA (m_gives l D k hm Ma Mn Ms My Mt Mp Mx Mo Mk Ml Mb Mh Mc Mz Mr Mq Mst Mtd Msz Mtk Mfr Men Mva Mfk Mfp Mfs Mse Mlt Mdp Mct Mdr Mrs Mit Mmk Mtp Mbt z_3) ci_X12_gives qm_X12_85 ⟨Nat.le_of_ble_eq_true rfl, Nat.le_of_ble_eq_true rfl⟩ ⟨Nat.le_of_ble_eq_true rfl, Nat.le_of_ble_eq_true rfl⟩ [0] [1] rfl rfl rfl rfl rfl (by decide) 0 rfl rfl rfl hl.1 rfl (Nat.le_of_ble_eq_true rfl) dX12_follows_16 (fun u_4 H locs hφ hP hD hS => ?_)
    obtain ⟨I_5, L_6, F_7, G_8⟩ := u_4
    refine W.eq (g2 := F0 m 19 ls [.int (iZ z_3)]) rfl ?_
    refine lv_goto (tgt := 27) hx hb dX12_follows_19 (by decide) ?_
    exact EWi hx hb hr hlocks hS (fun i => [z_3, 0].getD i 0, fun i => [0].getD i 0, fun i => [].getD i (fun _ => 0), fun i => [].getD i (fun _ => 0)) rfl trivial (hP.sub [1, 0] rfl) (hD.sub [1, 0] rfl rfl) dX12_follows_27
  ·
    subst qz_1
    refine lv_if_eq (tgt := 22) hx hb dX12_follows_6 (by decide) (fun _ => ?_) (fun c => absurd (by decide) c)
    refine lv_aload_n hx hb dX12_follows_22 rfl (lv_at hl 0 rfl) ?_
    refine lv_iconst (v := iZ 1) hx hb dX12_follows_23 (by decide) ?_
    refine CWV (As := [.int (iZ 1)]) (rest := []) (wc := [(hm, .inr (12, [.ref Ma, .ref Mn, .int (iZ Mst), .long Mtp, .long Mbt, .ref Ms, .ref My, .ref Mt, .ref Mp, .ref Mx, .int (iZ Mtd), .int (iZ Msz), .int (iZ Mtk), .int (iZ Mfr), .int (iZ Men), .int (iZ Mva), .int (iZ Mfk), .int (iZ Mfp), .int (iZ Mfs), .int (iZ Mse), .int (iZ Mlt), .ref Mo, .int (iZ Mdp), .int (iZ Mct), .ref Mk, .ref Ml, .ref Mb, .ref Mh, .ref Mc, .int (iZ Mdr), .int (iZ Mrs), .ref Mz, .ref Mr, .ref Mq, .int (iZ Mit), .int (iZ Mmk)]))]) (wr := [(Ma, .inl (k 1, 5340, .inl Af))]) hx hb hml hown hts hKK hP hD hS hA (m_refuse l D k hm Ma Mn Ms My Mt Mp Mx Mo Mk Ml Mb Mh Mc Mz Mr Mq Mst Mtd Msz Mtk Mfr Men Mva Mfk Mfp Mfs Mse Mlt Mdp Mct Mdr Mrs Mit Mmk Mtp Mbt 1) ci_X12_refuse qm_X12_81 ⟨Nat.le_of_ble_eq_true rfl, Nat.le_of_ble_eq_true rfl⟩ ⟨Nat.le_of_ble_eq_true rfl, Nat.le_of_ble_eq_true rfl⟩ [0] [1] rfl rfl rfl rfl rfl (by decide) 0 rfl rfl rfl hl.1 rfl (Nat.le_of_ble_eq_true rfl) dX12_follows_24 (fun u_11 H locs hφ hP hD hS => ?_)
    obtain ⟨I_12, L_13, F_14, G_15⟩ := u_11
    refine W.eq (g2 := F0 m 27 ls [.int (iZ (-1))]) rfl ?_
    exact EWi hx hb hr hlocks hS (fun i => [(-1), 1].getD i 0, fun i => [0].getD i 0, fun i => [].getD i (fun _ => 0), fun i => [].getD i (fun _ => 0)) rfl trivial (hP.sub [1, 0] rfl) (hD.sub [1, 0] rfl rfl) dX12_follows_27
set_option maxHeartbeats 4000000 in
set_option maxRecDepth 100000 in
theorem q_model (l : Launch) (D : va_G) (k : Nat → ClassId) (hm : Nat) (Ma : Nat) (Mn : Nat) (Ms : Nat) (My : Nat) (Mt : Nat) (Mp : Nat) (Mx : Nat) (Mo : Nat) (Mk : Nat) (Ml : Nat) (Mb : Nat) (Mh : Nat) (Mc : Nat) (Mz : Nat) (Mr : Nat) (Mq : Nat) (Mst : Int) (Mtd : Int) (Msz : Int) (Mtk : Int) (Mfr : Int) (Men : Int) (Mva : Int) (Mfk : Int) (Mfp : Int) (Mfs : Int) (Mse : Int) (Mlt : Int) (Mdp : Int) (Mct : Int) (Mdr : Int) (Mrs : Int) (Mit : Int) (Mmk : Int) (Mtp : Int64) (Mbt : Int64) (Af : Nat → Int32) (x1 : Int) (hM : M0 Af) (h9x1 : -2147483648 ≤ x1 ∧ x1 < 2147483648) : WD (σ := ((Nat → Int) × (Nat → Int64) × (Nat → Nat → Int32) × (Nat → Nat → Int64))) l yX12_model cX12_model 6 (some .int) 8 0 0 D k [.ref hm, .int (iZ x1)] [(hm, .inr (12, [.ref Ma, .ref Mn, .int (iZ Mst), .long Mtp, .long Mbt, .ref Ms, .ref My, .ref Mt, .ref Mp, .ref Mx, .int (iZ Mtd), .int (iZ Msz), .int (iZ Mtk), .int (iZ Mfr), .int (iZ Men), .int (iZ Mva), .int (iZ Mfk), .int (iZ Mfp), .int (iZ Mfs), .int (iZ Mse), .int (iZ Mlt), .ref Mo, .int (iZ Mdp), .int (iZ Mct), .ref Mk, .ref Ml, .ref Mb, .ref Mh, .ref Mc, .int (iZ Mdr), .int (iZ Mrs), .ref Mz, .ref Mr, .ref Mq, .int (iZ Mit), .int (iZ Mmk)])), (Ma, .inl (k 1, 5340, .inl Af))] (fun u => some (.int (iZ (u.1 0)))) (fun _ => True) (fun u => [(hm, .inr (12, [.ref Ma, .ref Mn, .int (iZ (u.1 1)), .long Mtp, .long Mbt, .ref Ms, .ref My, .ref Mt, .ref Mp, .ref Mx, .int (iZ Mtd), .int (iZ Msz), .int (iZ Mtk), .int (iZ Mfr), .int (iZ Men), .int (iZ Mva), .int (iZ Mfk), .int (iZ Mfp), .int (iZ Mfs), .int (iZ Mse), .int (iZ Mlt), .ref Mo, .int (iZ Mdp), .int (iZ Mct), .ref Mk, .ref Ml, .ref Mb, .ref Mh, .ref Mc, .int (iZ Mdr), .int (iZ Mrs), .ref Mz, .ref Mr, .ref Mq, .int (iZ Mit), .int (iZ Mmk)])), (Ma, .inl (k 1, 5340, .inl Af))]) := by
  refine MW (by decide) (Nat.le_of_ble_eq_true rfl) (fun p e s m below meth c ls A hx hb hml hr hlocks hin hts hown hKK hP hD hS hA hl => ?_)
  have hK := hKK.1
  have hl : lv_has ls 6 [(0, .ref hm), (1, .int (iZ x1))] := hl
  obtain ⟨m0, m1, m3, m4, m5, mF, mO, mS⟩ := id hM
  refine lv_aload_n hx hb dX12_model_0 rfl (lv_at hl 0 rfl) ?_
  refine lv_iload_n hx hb dX12_model_1 rfl (lv_at hl 1 rfl) ?_
  refine CPV (As := [.int (iZ x1)]) (rest := []) hx hb hml hown hts hKK hP (m_isRock l D k ([.ref Ma, .ref Mn, .int (iZ Mst), .long Mtp, .long Mbt, .ref Ms, .ref My, .ref Mt, .ref Mp, .ref Mx, .int (iZ Mtd), .int (iZ Msz), .int (iZ Mtk), .int (iZ Mfr), .int (iZ Men), .int (iZ Mva), .int (iZ Mfk), .int (iZ Mfp), .int (iZ Mfs), .int (iZ Mse), .int (iZ Mlt), .ref Mo, .int (iZ Mdp), .int (iZ Mct), .ref Mk, .ref Ml, .ref Mb, .ref Mh, .ref Mc, .int (iZ Mdr), .int (iZ Mrs), .ref Mz, .ref Mr, .ref Mq, .int (iZ Mit), .int (iZ Mmk)]) hm Ma Af x1 rfl hM ⟨by omega, by omega⟩) ci_X12_isRock qm_X12_243 ⟨Nat.le_of_ble_eq_true rfl, Nat.le_of_ble_eq_true rfl⟩ ⟨Nat.le_of_ble_eq_true rfl, Nat.le_of_ble_eq_true rfl⟩ 0 rfl rfl rfl hl.1 rfl (Nat.le_of_ble_eq_true rfl) dX12_model_2 (fun z_1 hz_1 => ?_)
  rcases hz_1 with ⟨qz_1, hz_1⟩ | ⟨qz_1, hz_1⟩
  ·
    subst qz_1
    refine lv_if_ne (tgt := 14) hx hb dX12_model_5 (by decide) (fun _ => ?_) (fun c => absurd c (by decide))
    refine lv_iconst (v := iZ (-1)) hx hb dX12_model_14 (by decide) ?_
    refine lv_istore_n (lv' := [(2, .int (iZ (-1))), (0, .ref hm), (1, .int (iZ x1))]) hx hb dX12_model_15 rfl hl (by decide) rfl (fun ls hl => ?_)
    refine lv_iconst (v := iZ (-1)) hx hb dX12_model_16 (by decide) ?_
    refine lv_istore_n (lv' := [(3, .int (iZ (-1))), (2, .int (iZ (-1))), (0, .ref hm), (1, .int (iZ x1))]) hx hb dX12_model_17 rfl hl (by decide) rfl (fun ls hl => ?_)
    refine lv_iconst (v := iZ 0) hx hb dX12_model_18 (by decide) ?_
    refine lv_istore (lv' := [(4, .int (iZ 0)), (3, .int (iZ (-1))), (2, .int (iZ (-1))), (0, .ref hm), (1, .int (iZ x1))]) hx hb dX12_model_19 hl (by decide) rfl (fun ls hl => ?_)
    have HL21 : ∀ (fu : Nat) (v3_21 : Int) (v2_21 : Int) (v4_21 : Int) (H : Heap) (locs : List Loc) (ls : Array Slot), ((gz Af 0) + 2 - v4_21) < (fu : Int) → ((0 ≤ v4_21 ∧ v4_21 ≤ (gz Af 0) + 1)) → (-1 ≤ v2_21 ∧ v2_21 < gz Af 0) → (-1 ≤ v3_21 ∧ v3_21 ≤ 400) → va_P D vwCl [(hm, .inr (12, [.ref Ma, .ref Mn, .int (iZ Mst), .long Mtp, .long Mbt, .ref Ms, .ref My, .ref Mt, .ref Mp, .ref Mx, .int (iZ Mtd), .int (iZ Msz), .int (iZ Mtk), .int (iZ Mfr), .int (iZ Men), .int (iZ Mva), .int (iZ Mfk), .int (iZ Mfp), .int (iZ Mfs), .int (iZ Mse), .int (iZ Mlt), .ref Mo, .int (iZ Mdp), .int (iZ Mct), .ref Mk, .ref Ml, .ref Mb, .ref Mh, .ref Mc, .int (iZ Mdr), .int (iZ Mrs), .ref Mz, .ref Mr, .ref Mq, .int (iZ Mit), .int (iZ Mmk)])), (Ma, .inl (k 1, 5340, .inl Af))] H → va_D A [(hm, .inr (12, [.ref Ma, .ref Mn, .int (iZ Mst), .long Mtp, .long Mbt, .ref Ms, .ref My, .ref Mt, .ref Mp, .ref Mx, .int (iZ Mtd), .int (iZ Msz), .int (iZ Mtk), .int (iZ Mfr), .int (iZ Men), .int (iZ Mva), .int (iZ Mfk), .int (iZ Mfp), .int (iZ Mfs), .int (iZ Mse), .int (iZ Mlt), .ref Mo, .int (iZ Mdp), .int (iZ Mct), .ref Mk, .ref Ml, .ref Mb, .ref Mh, .ref Mc, .int (iZ Mdr), .int (iZ Mrs), .ref Mz, .ref Mr, .ref Mq, .int (iZ Mit), .int (iZ Mmk)])), (Ma, .inl (k 1, 5340, .inl Af))] → va_S A s.heap H locs → lv_has ls 6 [(4, .int (iZ v4_21)), (3, .int (iZ v3_21)), (2, .int (iZ v2_21)), (0, .ref hm), (1, .int (iZ x1))] → W p l e (rj 8 0 0) s m [.ref hm, .int (iZ x1)].toArray below meth c H locs 0 0 (MQ below (QW (σ := ((Nat → Int) × (Nat → Int64) × (Nat → Nat → Int32) × (Nat → Nat → Int64))) (fun u => some (.int (iZ (u.1 0)))) (fun _ => True) (fun u => [(hm, .inr (12, [.ref Ma, .ref Mn, .int (iZ (u.1 1)), .long Mtp, .long Mbt, .ref Ms, .ref My, .ref Mt, .ref Mp, .ref Mx, .int (iZ Mtd), .int (iZ Msz), .int (iZ Mtk), .int (iZ Mfr), .int (iZ Men), .int (iZ Mva), .int (iZ Mfk), .int (iZ Mfp), .int (iZ Mfs), .int (iZ Mse), .int (iZ Mlt), .ref Mo, .int (iZ Mdp), .int (iZ Mct), .ref Mk, .ref Ml, .ref Mb, .ref Mh, .ref Mc, .int (iZ Mdr), .int (iZ Mrs), .ref Mz, .ref Mr, .ref Mq, .int (iZ Mit), .int (iZ Mmk)])), (Ma, .inl (k 1, 5340, .inl Af))]) D A) [.ref hm, .int (iZ x1)].toArray s 0 0 A) (F0 m 21 ls []) := by
      intro fu
      induction fu with
      | zero => intro v3_21 v2_21 v4_21 H locs ls hμ21 hi21 hf0_21 hf1_21 hP hD hS hl; exact absurd hμ21 (by omega)
      | succ fu ih21 =>
        intro v3_21 v2_21 v4_21 H locs ls hμ21 hi21 hf0_21 hf1_21 hP hD hS hl
        refine lv_iload hx hb dX12_model_21 (lv_at hl 0 rfl) ?_
        refine lv_aload_n hx hb dX12_model_23 rfl (lv_at hl 3 rfl) ?_
        refine va_get (D := D) (ci := 12) (v := .ref Ma) (C := RX12) (T := TX12) (N := 36) hx hb hts iX12 hown hK hP 0 rfl rfl 0 (by decide) (hts _ qf_X12_7) (fun _ h => h) rfl dX12_model_24 ?_
        refine lv_iconst (v := iZ 0) hx hb dX12_model_27 (by decide) ?_
        refine va_iald hx hb hK hP 1 1 rfl rfl (zin (e := 0) (n := 5340) ⟨by omega, by omega⟩ (by decide)) dX12_model_28 ?_
        refine lv_topi (fun x_3 ex_3 => ?_)
        obtain rfl : x_3 = iZ (gz Af 0) := ex_3.trans (gz_eq ⟨by omega, by omega⟩)
        have h_4 := gz_rg Af 0
        refine lv_icmp_ge (tgt := 72) hx hb dX12_model_29 (by decide) (fun c_5 => ?_) (fun c_5 => ?_)
        ·
          have c_5 := (zle (x := iZ (gz Af 0)) (y := iZ v4_21) rfl rfl ⟨by omega, by omega⟩ ⟨by omega, by omega⟩).mp c_5
          refine lv_aload_n hx hb dX12_model_72 rfl (lv_at hl 3 rfl) ?_
          refine lv_iload_n hx hb dX12_model_73 rfl (lv_at hl 2 rfl) ?_
          refine CWV (As := [.int (iZ v2_21)]) (rest := []) (wc := [(hm, .inr (12, [.ref Ma, .ref Mn, .int (iZ Mst), .long Mtp, .long Mbt, .ref Ms, .ref My, .ref Mt, .ref Mp, .ref Mx, .int (iZ Mtd), .int (iZ Msz), .int (iZ Mtk), .int (iZ Mfr), .int (iZ Men), .int (iZ Mva), .int (iZ Mfk), .int (iZ Mfp), .int (iZ Mfs), .int (iZ Mse), .int (iZ Mlt), .ref Mo, .int (iZ Mdp), .int (iZ Mct), .ref Mk, .ref Ml, .ref Mb, .ref Mh, .ref Mc, .int (iZ Mdr), .int (iZ Mrs), .ref Mz, .ref Mr, .ref Mq, .int (iZ Mit), .int (iZ Mmk)]))]) (wr := [(Ma, .inl (k 1, 5340, .inl Af))]) hx hb hml hown hts hKK hP hD hS hA (m_orNone l D k hm Ma Mn Ms My Mt Mp Mx Mo Mk Ml Mb Mh Mc Mz Mr Mq Mst Mtd Msz Mtk Mfr Men Mva Mfk Mfp Mfs Mse Mlt Mdp Mct Mdr Mrs Mit Mmk Mtp Mbt v2_21 ⟨by omega, by omega⟩) ci_X12_orNone qm_X12_290 ⟨Nat.le_of_ble_eq_true rfl, Nat.le_of_ble_eq_true rfl⟩ ⟨Nat.le_of_ble_eq_true rfl, Nat.le_of_ble_eq_true rfl⟩ [0] [1] rfl rfl rfl rfl rfl (by decide) 0 rfl rfl rfl hl.1 rfl (Nat.le_of_ble_eq_true rfl) dX12_model_74 (fun u_6 H locs hφ hP hD hS => ?_)
          obtain ⟨I_7, L_8, F_9, G_10⟩ := u_6
          have p_12 : ((v2_21 : Int) = -1 ∧ (I_7 1) = 6) ∨ (¬ (v2_21 : Int) = -1 ∧ (I_7 1) = 0) := hφ
          refine W.eq (g2 := F0 m 77 ls [.int (iZ v2_21)]) rfl ?_
          exact EWi hx hb hr hlocks hS (fun i => [v2_21, (I_7 1)].getD i 0, fun i => [0].getD i 0, fun i => [].getD i (fun _ => 0), fun i => [].getD i (fun _ => 0)) rfl trivial (hP.sub [1, 0] rfl) (hD.sub [1, 0] rfl rfl) dX12_model_77
        ·
          have c_5 := mt (zle (x := iZ (gz Af 0)) (y := iZ v4_21) rfl rfl ⟨by omega, by omega⟩ ⟨by omega, by omega⟩).mpr c_5
          refine lv_iload hx hb dX12_model_32 (lv_at hl 0 rfl) ?_
          refine lv_iload_n hx hb dX12_model_34 rfl (lv_at hl 4 rfl) ?_
          refine lv_icmp_ne (tgt := 42) hx hb dX12_model_35 (by decide) (fun c_13 => ?_) (fun c_13 => ?_)
          ·
            have c_13 := mt (zeq (x := iZ v4_21) (y := iZ x1) rfl rfl ⟨by omega, by omega⟩ ⟨by omega, by omega⟩).mpr c_13
            refine lv_aload_n hx hb dX12_model_42 rfl (lv_at hl 3 rfl) ?_
            refine lv_iload_n hx hb dX12_model_43 rfl (lv_at hl 4 rfl) ?_
            refine lv_iload hx hb dX12_model_44 (lv_at hl 0 rfl) ?_
            refine CPV (As := [.int (iZ x1), .int (iZ v4_21)]) (rest := []) hx hb hml hown hts hKK hP (m_followsOf l D k ([.ref Ma, .ref Mn, .int (iZ Mst), .long Mtp, .long Mbt, .ref Ms, .ref My, .ref Mt, .ref Mp, .ref Mx, .int (iZ Mtd), .int (iZ Msz), .int (iZ Mtk), .int (iZ Mfr), .int (iZ Men), .int (iZ Mva), .int (iZ Mfk), .int (iZ Mfp), .int (iZ Mfs), .int (iZ Mse), .int (iZ Mlt), .ref Mo, .int (iZ Mdp), .int (iZ Mct), .ref Mk, .ref Ml, .ref Mb, .ref Mh, .ref Mc, .int (iZ Mdr), .int (iZ Mrs), .ref Mz, .ref Mr, .ref Mq, .int (iZ Mit), .int (iZ Mmk)]) hm Ma Af x1 v4_21 rfl hM ⟨by omega, by omega⟩ ⟨by omega, by omega⟩) ci_X12_followsOf qm_X12_377 ⟨Nat.le_of_ble_eq_true rfl, Nat.le_of_ble_eq_true rfl⟩ ⟨Nat.le_of_ble_eq_true rfl, Nat.le_of_ble_eq_true rfl⟩ 0 rfl rfl rfl hl.1 rfl (Nat.le_of_ble_eq_true rfl) dX12_model_46 (fun z_14 hz_14 => ?_)
            refine lv_istore (lv' := [(5, .int (iZ z_14)), (4, .int (iZ v4_21)), (3, .int (iZ v3_21)), (2, .int (iZ v2_21)), (0, .ref hm), (1, .int (iZ x1))]) hx hb dX12_model_49 hl (by decide) rfl (fun ls hl => ?_)
            refine lv_iload hx hb dX12_model_51 (lv_at hl 0 rfl) ?_
            refine lv_iload_n hx hb dX12_model_53 rfl (lv_at hl 2 rfl) ?_
            refine lv_icmp_gt (tgt := 60) hx hb dX12_model_54 (by decide) (fun c_15 => ?_) (fun c_15 => ?_)
            ·
              have c_15 := (zlt (x := iZ v3_21) (y := iZ z_14) rfl rfl ⟨by omega, by omega⟩ ⟨by omega, by omega⟩).mp c_15
              refine lv_iload hx hb dX12_model_60 (lv_at hl 0 rfl) ?_
              refine lv_istore_n (lv' := [(3, .int (iZ z_14)), (5, .int (iZ z_14)), (4, .int (iZ v4_21)), (2, .int (iZ v2_21)), (0, .ref hm), (1, .int (iZ x1))]) hx hb dX12_model_62 rfl hl (by decide) rfl (fun ls hl => ?_)
              refine lv_iload hx hb dX12_model_63 (lv_at hl 2 rfl) ?_
              refine lv_istore_n (lv' := [(2, .int (iZ v4_21)), (3, .int (iZ z_14)), (5, .int (iZ z_14)), (4, .int (iZ v4_21)), (0, .ref hm), (1, .int (iZ x1))]) hx hb dX12_model_65 rfl hl (by decide) rfl (fun ls hl => ?_)
              refine lv_iinc (v := iZ (v4_21 + 1)) (lv' := [(4, .int (iZ (v4_21 + 1))), (2, .int (iZ v4_21)), (3, .int (iZ z_14)), (5, .int (iZ z_14)), (0, .ref hm), (1, .int (iZ x1))]) hx hb dX12_model_66 hl (k := 3) rfl (iZ_add v4_21 1) (by decide) rfl (fun ls hl => ?_)
              refine lv_goto (tgt := 21) hx hb dX12_model_69 (by decide) ?_
              exact ih21  z_14 v4_21 (v4_21 + 1) _ _ _ (by omega) (show (0 ≤ (v4_21 + 1) ∧ (v4_21 + 1) ≤ (gz Af 0) + 1) from ⟨by omega, by omega⟩) (show -1 ≤ v4_21 ∧ v4_21 < gz Af 0 from (by omega)) (show -1 ≤ z_14 ∧ z_14 ≤ 400 from (by omega)) (hP.sub [0, 1] rfl) (hD.sub [0, 1] rfl rfl) hS (lv_sub hl [0, 2, 1, 4, 5] rfl)
            ·
              have c_15 := mt (zlt (x := iZ v3_21) (y := iZ z_14) rfl rfl ⟨by omega, by omega⟩ ⟨by omega, by omega⟩).mpr c_15
              refine lv_goto (tgt := 66) hx hb dX12_model_57 (by decide) ?_
              refine lv_iinc (v := iZ (v4_21 + 1)) (lv' := [(4, .int (iZ (v4_21 + 1))), (5, .int (iZ z_14)), (3, .int (iZ v3_21)), (2, .int (iZ v2_21)), (0, .ref hm), (1, .int (iZ x1))]) hx hb dX12_model_66 hl (k := 1) rfl (iZ_add v4_21 1) (by decide) rfl (fun ls hl => ?_)
              refine lv_goto (tgt := 21) hx hb dX12_model_69 (by decide) ?_
              exact ih21  v3_21 v2_21 (v4_21 + 1) _ _ _ (by omega) (show (0 ≤ (v4_21 + 1) ∧ (v4_21 + 1) ≤ (gz Af 0) + 1) from ⟨by omega, by omega⟩) (show -1 ≤ v2_21 ∧ v2_21 < gz Af 0 from (by omega)) (show -1 ≤ v3_21 ∧ v3_21 ≤ 400 from (by omega)) (hP.sub [0, 1] rfl) (hD.sub [0, 1] rfl rfl) hS (lv_sub hl [0, 2, 3, 4, 5] rfl)
          ·
            have c_13 := (zeq (x := iZ v4_21) (y := iZ x1) rfl rfl ⟨by omega, by omega⟩ ⟨by omega, by omega⟩).mp c_13
            refine lv_iconst (v := iZ (-1)) hx hb dX12_model_38 (by decide) ?_
            refine lv_goto (tgt := 49) hx hb dX12_model_39 (by decide) ?_
            refine lv_istore (lv' := [(5, .int (iZ (-1))), (4, .int (iZ v4_21)), (3, .int (iZ v3_21)), (2, .int (iZ v2_21)), (0, .ref hm), (1, .int (iZ x1))]) hx hb dX12_model_49 hl (by decide) rfl (fun ls hl => ?_)
            refine lv_iload hx hb dX12_model_51 (lv_at hl 0 rfl) ?_
            refine lv_iload_n hx hb dX12_model_53 rfl (lv_at hl 2 rfl) ?_
            refine lv_icmp_gt (tgt := 60) hx hb dX12_model_54 (by decide) (fun c_16 => ?_) (fun c_16 => ?_)
            ·
              have c_16 := (zlt (x := iZ v3_21) (y := iZ (-1)) rfl rfl ⟨by omega, by omega⟩ ⟨by omega, by omega⟩).mp c_16
              refine lv_iload hx hb dX12_model_60 (lv_at hl 0 rfl) ?_
              refine lv_istore_n (lv' := [(3, .int (iZ (-1))), (5, .int (iZ (-1))), (4, .int (iZ v4_21)), (2, .int (iZ v2_21)), (0, .ref hm), (1, .int (iZ x1))]) hx hb dX12_model_62 rfl hl (by decide) rfl (fun ls hl => ?_)
              refine lv_iload hx hb dX12_model_63 (lv_at hl 2 rfl) ?_
              refine lv_istore_n (lv' := [(2, .int (iZ v4_21)), (3, .int (iZ (-1))), (5, .int (iZ (-1))), (4, .int (iZ v4_21)), (0, .ref hm), (1, .int (iZ x1))]) hx hb dX12_model_65 rfl hl (by decide) rfl (fun ls hl => ?_)
              refine lv_iinc (v := iZ (v4_21 + 1)) (lv' := [(4, .int (iZ (v4_21 + 1))), (2, .int (iZ v4_21)), (3, .int (iZ (-1))), (5, .int (iZ (-1))), (0, .ref hm), (1, .int (iZ x1))]) hx hb dX12_model_66 hl (k := 3) rfl (iZ_add v4_21 1) (by decide) rfl (fun ls hl => ?_)
              refine lv_goto (tgt := 21) hx hb dX12_model_69 (by decide) ?_
              exact ih21  (-1) v4_21 (v4_21 + 1) _ _ _ (by omega) (show (0 ≤ (v4_21 + 1) ∧ (v4_21 + 1) ≤ (gz Af 0) + 1) from ⟨by omega, by omega⟩) (show -1 ≤ v4_21 ∧ v4_21 < gz Af 0 from (by omega)) (show -1 ≤ (-1) ∧ (-1) ≤ 400 from (by omega)) (hP.sub [0, 1] rfl) (hD.sub [0, 1] rfl rfl) hS (lv_sub hl [0, 2, 1, 4, 5] rfl)
            ·
              have c_16 := mt (zlt (x := iZ v3_21) (y := iZ (-1)) rfl rfl ⟨by omega, by omega⟩ ⟨by omega, by omega⟩).mpr c_16
              refine lv_goto (tgt := 66) hx hb dX12_model_57 (by decide) ?_
              refine lv_iinc (v := iZ (v4_21 + 1)) (lv' := [(4, .int (iZ (v4_21 + 1))), (5, .int (iZ (-1))), (3, .int (iZ v3_21)), (2, .int (iZ v2_21)), (0, .ref hm), (1, .int (iZ x1))]) hx hb dX12_model_66 hl (k := 1) rfl (iZ_add v4_21 1) (by decide) rfl (fun ls hl => ?_)
              refine lv_goto (tgt := 21) hx hb dX12_model_69 (by decide) ?_
              exact ih21  v3_21 v2_21 (v4_21 + 1) _ _ _ (by omega) (show (0 ≤ (v4_21 + 1) ∧ (v4_21 + 1) ≤ (gz Af 0) + 1) from ⟨by omega, by omega⟩) (show -1 ≤ v2_21 ∧ v2_21 < gz Af 0 from (by omega)) (show -1 ≤ v3_21 ∧ v3_21 ≤ 400 from (by omega)) (hP.sub [0, 1] rfl) (hD.sub [0, 1] rfl rfl) hS (lv_sub hl [0, 2, 3, 4, 5] rfl)
    exact HL21 10 (-1) (-1) 0 _ _ _ (by omega) (show (0 ≤ 0 ∧ 0 ≤ (gz Af 0) + 1) from ⟨by omega, by omega⟩) (show -1 ≤ (-1) ∧ (-1) < gz Af 0 from (by omega)) (show -1 ≤ (-1) ∧ (-1) ≤ 400 from (by omega)) (hP.sub [0, 1] rfl) (hD.sub [0, 1] rfl rfl) hS (lv_sub hl [0, 1, 2, 3, 4] rfl)
  ·
    subst qz_1
    refine lv_if_ne (tgt := 14) hx hb dX12_model_5 (by decide) (fun c => absurd (by decide) c) (fun _ => ?_)
    refine lv_aload_n hx hb dX12_model_8 rfl (lv_at hl 0 rfl) ?_
    refine lv_iconst (v := iZ 1) hx hb dX12_model_9 (by decide) ?_
    refine CWV (As := [.int (iZ 1)]) (rest := []) (wc := [(hm, .inr (12, [.ref Ma, .ref Mn, .int (iZ Mst), .long Mtp, .long Mbt, .ref Ms, .ref My, .ref Mt, .ref Mp, .ref Mx, .int (iZ Mtd), .int (iZ Msz), .int (iZ Mtk), .int (iZ Mfr), .int (iZ Men), .int (iZ Mva), .int (iZ Mfk), .int (iZ Mfp), .int (iZ Mfs), .int (iZ Mse), .int (iZ Mlt), .ref Mo, .int (iZ Mdp), .int (iZ Mct), .ref Mk, .ref Ml, .ref Mb, .ref Mh, .ref Mc, .int (iZ Mdr), .int (iZ Mrs), .ref Mz, .ref Mr, .ref Mq, .int (iZ Mit), .int (iZ Mmk)]))]) (wr := [(Ma, .inl (k 1, 5340, .inl Af))]) hx hb hml hown hts hKK hP hD hS hA (m_refuse l D k hm Ma Mn Ms My Mt Mp Mx Mo Mk Ml Mb Mh Mc Mz Mr Mq Mst Mtd Msz Mtk Mfr Men Mva Mfk Mfp Mfs Mse Mlt Mdp Mct Mdr Mrs Mit Mmk Mtp Mbt 1) ci_X12_refuse qm_X12_81 ⟨Nat.le_of_ble_eq_true rfl, Nat.le_of_ble_eq_true rfl⟩ ⟨Nat.le_of_ble_eq_true rfl, Nat.le_of_ble_eq_true rfl⟩ [0] [1] rfl rfl rfl rfl rfl (by decide) 0 rfl rfl rfl hl.1 rfl (Nat.le_of_ble_eq_true rfl) dX12_model_10 (fun u_18 H locs hφ hP hD hS => ?_)
    obtain ⟨I_19, L_20, F_21, G_22⟩ := u_18
    refine W.eq (g2 := F0 m 13 ls [.int (iZ (-1))]) rfl ?_
    exact EWi hx hb hr hlocks hS (fun i => [(-1), 1].getD i 0, fun i => [0].getD i 0, fun i => [].getD i (fun _ => 0), fun i => [].getD i (fun _ => 0)) rfl trivial (hP.sub [1, 0] rfl) (hD.sub [1, 0] rfl rfl) dX12_model_13
set_option maxHeartbeats 4000000 in
set_option maxRecDepth 100000 in
theorem q_uniform (l : Launch) (D : va_G) (k : Nat → ClassId) (hm : Nat) (Ma : Nat) (Mn : Nat) (Ms : Nat) (My : Nat) (Mt : Nat) (Mp : Nat) (Mx : Nat) (Mo : Nat) (Mk : Nat) (Ml : Nat) (Mb : Nat) (Mh : Nat) (Mc : Nat) (Mz : Nat) (Mr : Nat) (Mq : Nat) (Mst : Int) (Mtd : Int) (Msz : Int) (Mtk : Int) (Mfr : Int) (Men : Int) (Mva : Int) (Mfk : Int) (Mfp : Int) (Mfs : Int) (Mse : Int) (Mlt : Int) (Mdp : Int) (Mct : Int) (Mdr : Int) (Mrs : Int) (Mit : Int) (Mmk : Int) (Mtp : Int64) (Mbt : Int64) (Af : Nat → Int32) (hM : M0 Af) : WD (σ := ((Nat → Int) × (Nat → Int64) × (Nat → Nat → Int32) × (Nat → Nat → Int64))) l yX12_uniform cX12_uniform 3 (some .int) 1 0 0 D k [.ref hm] [(hm, .inr (12, [.ref Ma, .ref Mn, .int (iZ Mst), .long Mtp, .long Mbt, .ref Ms, .ref My, .ref Mt, .ref Mp, .ref Mx, .int (iZ Mtd), .int (iZ Msz), .int (iZ Mtk), .int (iZ Mfr), .int (iZ Men), .int (iZ Mva), .int (iZ Mfk), .int (iZ Mfp), .int (iZ Mfs), .int (iZ Mse), .int (iZ Mlt), .ref Mo, .int (iZ Mdp), .int (iZ Mct), .ref Mk, .ref Ml, .ref Mb, .ref Mh, .ref Mc, .int (iZ Mdr), .int (iZ Mrs), .ref Mz, .ref Mr, .ref Mq, .int (iZ Mit), .int (iZ Mmk)])), (Ma, .inl (k 1, 5340, .inl Af))] (fun u => some (.int (iZ (u.1 0)))) (fun _ => True) (fun u => [(hm, .inr (12, [.ref Ma, .ref Mn, .int (iZ (u.1 1)), .long Mtp, .long Mbt, .ref Ms, .ref My, .ref Mt, .ref Mp, .ref Mx, .int (iZ Mtd), .int (iZ Msz), .int (iZ Mtk), .int (iZ Mfr), .int (iZ Men), .int (iZ Mva), .int (iZ Mfk), .int (iZ Mfp), .int (iZ Mfs), .int (iZ Mse), .int (iZ Mlt), .ref Mo, .int (iZ Mdp), .int (iZ Mct), .ref Mk, .ref Ml, .ref Mb, .ref Mh, .ref Mc, .int (iZ Mdr), .int (iZ Mrs), .ref Mz, .ref Mr, .ref Mq, .int (iZ Mit), .int (iZ Mmk)])), (Ma, .inl (k 1, 5340, .inl Af))]) := by
  refine MW (by decide) (Nat.le_of_ble_eq_true rfl) (fun p e s m below meth c ls A hx hb hml hr hlocks hin hts hown hKK hP hD hS hA hl => ?_)
  have hK := hKK.1
  have hl : lv_has ls 3 [(0, .ref hm)] := hl
  obtain ⟨m0, m1, m3, m4, m5, mF, mO, mS⟩ := id hM
  refine lv_iconst (v := iZ 0) hx hb dX12_uniform_0 (by decide) ?_
  refine lv_istore_n (lv' := [(1, .int (iZ 0)), (0, .ref hm)]) hx hb dX12_uniform_1 rfl hl (by decide) rfl (fun ls hl => ?_)
  refine lv_iconst (v := iZ 0) hx hb dX12_uniform_2 (by decide) ?_
  refine lv_istore_n (lv' := [(2, .int (iZ 0)), (1, .int (iZ 0)), (0, .ref hm)]) hx hb dX12_uniform_3 rfl hl (by decide) rfl (fun ls hl => ?_)
  have HL4 : ∀ (fu : Nat) (v1_4 : Int) (v2_4 : Int) (H : Heap) (locs : List Loc) (ls : Array Slot), ((gz Af 3) + 2 - v2_4) < (fu : Int) → ((0 ≤ v2_4 ∧ v2_4 ≤ (gz Af 3) + 1)) → va_P D vwCl [(hm, .inr (12, [.ref Ma, .ref Mn, .int (iZ Mst), .long Mtp, .long Mbt, .ref Ms, .ref My, .ref Mt, .ref Mp, .ref Mx, .int (iZ Mtd), .int (iZ Msz), .int (iZ Mtk), .int (iZ Mfr), .int (iZ Men), .int (iZ Mva), .int (iZ Mfk), .int (iZ Mfp), .int (iZ Mfs), .int (iZ Mse), .int (iZ Mlt), .ref Mo, .int (iZ Mdp), .int (iZ Mct), .ref Mk, .ref Ml, .ref Mb, .ref Mh, .ref Mc, .int (iZ Mdr), .int (iZ Mrs), .ref Mz, .ref Mr, .ref Mq, .int (iZ Mit), .int (iZ Mmk)])), (Ma, .inl (k 1, 5340, .inl Af))] H → va_D A [(hm, .inr (12, [.ref Ma, .ref Mn, .int (iZ Mst), .long Mtp, .long Mbt, .ref Ms, .ref My, .ref Mt, .ref Mp, .ref Mx, .int (iZ Mtd), .int (iZ Msz), .int (iZ Mtk), .int (iZ Mfr), .int (iZ Men), .int (iZ Mva), .int (iZ Mfk), .int (iZ Mfp), .int (iZ Mfs), .int (iZ Mse), .int (iZ Mlt), .ref Mo, .int (iZ Mdp), .int (iZ Mct), .ref Mk, .ref Ml, .ref Mb, .ref Mh, .ref Mc, .int (iZ Mdr), .int (iZ Mrs), .ref Mz, .ref Mr, .ref Mq, .int (iZ Mit), .int (iZ Mmk)])), (Ma, .inl (k 1, 5340, .inl Af))] → va_S A s.heap H locs → lv_has ls 3 [(2, .int (iZ v2_4)), (1, .int (iZ v1_4)), (0, .ref hm)] → W p l e (rj 1 0 0) s m [.ref hm].toArray below meth c H locs 0 0 (MQ below (QW (σ := ((Nat → Int) × (Nat → Int64) × (Nat → Nat → Int32) × (Nat → Nat → Int64))) (fun u => some (.int (iZ (u.1 0)))) (fun _ => True) (fun u => [(hm, .inr (12, [.ref Ma, .ref Mn, .int (iZ (u.1 1)), .long Mtp, .long Mbt, .ref Ms, .ref My, .ref Mt, .ref Mp, .ref Mx, .int (iZ Mtd), .int (iZ Msz), .int (iZ Mtk), .int (iZ Mfr), .int (iZ Men), .int (iZ Mva), .int (iZ Mfk), .int (iZ Mfp), .int (iZ Mfs), .int (iZ Mse), .int (iZ Mlt), .ref Mo, .int (iZ Mdp), .int (iZ Mct), .ref Mk, .ref Ml, .ref Mb, .ref Mh, .ref Mc, .int (iZ Mdr), .int (iZ Mrs), .ref Mz, .ref Mr, .ref Mq, .int (iZ Mit), .int (iZ Mmk)])), (Ma, .inl (k 1, 5340, .inl Af))]) D A) [.ref hm].toArray s 0 0 A) (F0 m 4 ls []) := by
    intro fu
    induction fu with
    | zero => intro v1_4 v2_4 H locs ls hμ4 hi4 hP hD hS hl; exact absurd hμ4 (by omega)
    | succ fu ih4 =>
      intro v1_4 v2_4 H locs ls hμ4 hi4 hP hD hS hl
      refine lv_iload_n hx hb dX12_uniform_4 rfl (lv_at hl 0 rfl) ?_
      refine lv_aload_n hx hb dX12_uniform_5 rfl (lv_at hl 2 rfl) ?_
      refine va_get (D := D) (ci := 12) (v := .ref Ma) (C := RX12) (T := TX12) (N := 36) hx hb hts iX12 hown hK hP 0 rfl rfl 0 (by decide) (hts _ qf_X12_7) (fun _ h => h) rfl dX12_uniform_6 ?_
      refine lv_iconst (v := iZ 3) hx hb dX12_uniform_9 (by decide) ?_
      refine va_iald hx hb hK hP 1 1 rfl rfl (zin (e := 3) (n := 5340) ⟨by omega, by omega⟩ (by decide)) dX12_uniform_10 ?_
      refine lv_topi (fun x_1 ex_1 => ?_)
      obtain rfl : x_1 = iZ (gz Af 3) := ex_1.trans (gz_eq ⟨by omega, by omega⟩)
      have h_2 := gz_rg Af 3
      refine lv_icmp_gt (tgt := 62) hx hb dX12_uniform_11 (by decide) (fun c_3 => ?_) (fun c_3 => ?_)
      ·
        have c_3 := (zlt (x := iZ (gz Af 3)) (y := iZ v2_4) rfl rfl ⟨by omega, by omega⟩ ⟨by omega, by omega⟩).mp c_3
        refine lv_aload_n hx hb dX12_uniform_62 rfl (lv_at hl 2 rfl) ?_
        refine lv_iload_n hx hb dX12_uniform_63 rfl (lv_at hl 1 rfl) ?_
        refine CWV (As := [.int (iZ v1_4)]) (rest := []) (wc := [(hm, .inr (12, [.ref Ma, .ref Mn, .int (iZ Mst), .long Mtp, .long Mbt, .ref Ms, .ref My, .ref Mt, .ref Mp, .ref Mx, .int (iZ Mtd), .int (iZ Msz), .int (iZ Mtk), .int (iZ Mfr), .int (iZ Men), .int (iZ Mva), .int (iZ Mfk), .int (iZ Mfp), .int (iZ Mfs), .int (iZ Mse), .int (iZ Mlt), .ref Mo, .int (iZ Mdp), .int (iZ Mct), .ref Mk, .ref Ml, .ref Mb, .ref Mh, .ref Mc, .int (iZ Mdr), .int (iZ Mrs), .ref Mz, .ref Mr, .ref Mq, .int (iZ Mit), .int (iZ Mmk)]))]) (wr := [(Ma, .inl (k 1, 5340, .inl Af))]) hx hb hml hown hts hKK hP hD hS hA (m_gives l D k hm Ma Mn Ms My Mt Mp Mx Mo Mk Ml Mb Mh Mc Mz Mr Mq Mst Mtd Msz Mtk Mfr Men Mva Mfk Mfp Mfs Mse Mlt Mdp Mct Mdr Mrs Mit Mmk Mtp Mbt v1_4) ci_X12_gives qm_X12_85 ⟨Nat.le_of_ble_eq_true rfl, Nat.le_of_ble_eq_true rfl⟩ ⟨Nat.le_of_ble_eq_true rfl, Nat.le_of_ble_eq_true rfl⟩ [0] [1] rfl rfl rfl rfl rfl (by decide) 0 rfl rfl rfl hl.1 rfl (Nat.le_of_ble_eq_true rfl) dX12_uniform_64 (fun u_4 H locs hφ hP hD hS => ?_)
        obtain ⟨I_5, L_6, F_7, G_8⟩ := u_4
        refine W.eq (g2 := F0 m 67 ls [.int (iZ v1_4)]) rfl ?_
        exact EWi hx hb hr hlocks hS (fun i => [v1_4, 0].getD i 0, fun i => [0].getD i 0, fun i => [].getD i (fun _ => 0), fun i => [].getD i (fun _ => 0)) rfl trivial (hP.sub [1, 0] rfl) (hD.sub [1, 0] rfl rfl) dX12_uniform_67
      ·
        have c_3 := mt (zlt (x := iZ (gz Af 3)) (y := iZ v2_4) rfl rfl ⟨by omega, by omega⟩ ⟨by omega, by omega⟩).mpr c_3
        refine lv_iload_n hx hb dX12_uniform_14 rfl (lv_at hl 1 rfl) ?_
        refine lv_aload_n hx hb dX12_uniform_15 rfl (lv_at hl 2 rfl) ?_
        refine va_get (D := D) (ci := 12) (v := .ref Ma) (C := RX12) (T := TX12) (N := 36) hx hb hts iX12 hown hK hP 0 rfl rfl 0 (by decide) (hts _ qf_X12_7) (fun _ h => h) rfl dX12_uniform_16 ?_
        refine lv_bipush (v := iZ 118) hx hb dX12_uniform_19 (by decide) ?_
        refine lv_iload_n hx hb dX12_uniform_21 rfl (lv_at hl 0 rfl) ?_
        refine lv_iadd hx hb dX12_uniform_22 ?_
        refine lv_topi (fun x_10 ex_10 => ?_)
        obtain rfl : x_10 = iZ (118 + v2_4) := ex_10.trans (iZ_add 118 v2_4)
        refine va_iald hx hb hK hP 1 1 rfl rfl (zin (e := (118 + v2_4)) (n := 5340) ⟨by omega, by omega⟩ (by decide)) dX12_uniform_23 ?_
        refine lv_topi (fun x_11 ex_11 => ?_)
        obtain rfl : x_11 = iZ (gz Af (118 + v2_4)) := ex_11.trans (gz_eq ⟨by omega, by omega⟩)
        have h_12 := gz_rg Af (118 + v2_4)
        refine lv_if_eq (tgt := 49) hx hb dX12_uniform_24 (by decide) (fun c_13 => ?_) (fun c_13 => ?_)
        ·
          have c_13 := (zeq (x := iZ (gz Af (118 + v2_4))) (y := iZ 0) rfl rfl ⟨by omega, by omega⟩ ⟨by omega, by omega⟩).mp c_13
          refine lv_iconst (v := iZ 1) hx hb dX12_uniform_49 (by decide) ?_
          refine lv_goto (tgt := 54) hx hb dX12_uniform_50 (by decide) ?_
          refine lv_iadd hx hb dX12_uniform_54 ?_
          refine lv_topi (fun x_14 ex_14 => ?_)
          obtain rfl : x_14 = iZ (v1_4 + 1) := ex_14.trans (iZ_add v1_4 1)
          refine lv_istore_n (lv' := [(1, .int (iZ (v1_4 + 1))), (2, .int (iZ v2_4)), (0, .ref hm)]) hx hb dX12_uniform_55 rfl hl (by decide) rfl (fun ls hl => ?_)
          refine lv_iinc (v := iZ (v2_4 + 1)) (lv' := [(2, .int (iZ (v2_4 + 1))), (1, .int (iZ (v1_4 + 1))), (0, .ref hm)]) hx hb dX12_uniform_56 hl (k := 1) rfl (iZ_add v2_4 1) (by decide) rfl (fun ls hl => ?_)
          refine lv_goto (tgt := 4) hx hb dX12_uniform_59 (by decide) ?_
          exact ih4  (v1_4 + 1) (v2_4 + 1) _ _ _ (by omega) (show (0 ≤ (v2_4 + 1) ∧ (v2_4 + 1) ≤ (gz Af 3) + 1) from ⟨by omega, by omega⟩) (hP.sub [0, 1] rfl) (hD.sub [0, 1] rfl rfl) hS (lv_sub hl [0, 1, 2] rfl)
        ·
          have c_13 := mt (zeq (x := iZ (gz Af (118 + v2_4))) (y := iZ 0) rfl rfl ⟨by omega, by omega⟩ ⟨by omega, by omega⟩).mpr c_13
          refine lv_aload_n hx hb dX12_uniform_27 rfl (lv_at hl 2 rfl) ?_
          refine va_get (D := D) (ci := 12) (v := .ref Ma) (C := RX12) (T := TX12) (N := 36) hx hb hts iX12 hown hK hP 0 rfl rfl 0 (by decide) (hts _ qf_X12_7) (fun _ h => h) rfl dX12_uniform_28 ?_
          refine lv_bipush (v := iZ 118) hx hb dX12_uniform_31 (by decide) ?_
          refine lv_iload_n hx hb dX12_uniform_33 rfl (lv_at hl 0 rfl) ?_
          refine lv_iadd hx hb dX12_uniform_34 ?_
          refine lv_topi (fun x_15 ex_15 => ?_)
          obtain rfl : x_15 = iZ (118 + v2_4) := ex_15.trans (iZ_add 118 v2_4)
          refine va_iald hx hb hK hP 1 1 rfl rfl (zin (e := (118 + v2_4)) (n := 5340) ⟨by omega, by omega⟩ (by decide)) dX12_uniform_35 ?_
          refine lv_topi (fun x_16 ex_16 => ?_)
          obtain rfl : x_16 = iZ (gz Af (118 + v2_4)) := ex_16.trans (gz_eq ⟨by omega, by omega⟩)
          have h_17 := gz_rg Af (118 + v2_4)
          refine lv_iconst (v := iZ 1) hx hb dX12_uniform_36 (by decide) ?_
          refine lv_aload_n hx hb dX12_uniform_37 rfl (lv_at hl 2 rfl) ?_
          refine va_get (D := D) (ci := 12) (v := .ref Ma) (C := RX12) (T := TX12) (N := 36) hx hb hts iX12 hown hK hP 0 rfl rfl 0 (by decide) (hts _ qf_X12_7) (fun _ h => h) rfl dX12_uniform_38 ?_
          refine lv_iconst (v := iZ 0) hx hb dX12_uniform_41 (by decide) ?_
          refine va_iald hx hb hK hP 1 1 rfl rfl (zin (e := 0) (n := 5340) ⟨by omega, by omega⟩ (by decide)) dX12_uniform_42 ?_
          refine lv_topi (fun x_18 ex_18 => ?_)
          obtain rfl : x_18 = iZ (gz Af 0) := ex_18.trans (gz_eq ⟨by omega, by omega⟩)
          have h_19 := gz_rg Af 0
          refine lv_ishl hx hb dX12_uniform_43 ?_
          refine lv_topi (fun x_21 ex_21 => ?_)
          obtain ⟨z_20, hz_20, hz_20a, hz_20b⟩ := i32_z x_21
          subst hz_20
          refine lv_iconst (v := iZ 1) hx hb dX12_uniform_44 (by decide) ?_
          refine lv_isub hx hb dX12_uniform_45 ?_
          refine lv_topi (fun x_23 ex_23 => ?_)
          obtain ⟨z_22, hz_22, hz_22a, hz_22b⟩ := i32_z x_23
          subst hz_22
          refine lv_icmp_ne (tgt := 53) hx hb dX12_uniform_46 (by decide) (fun c_24 => ?_) (fun c_24 => ?_)
          ·
            have c_24 := mt (zeq (x := iZ (gz Af (118 + v2_4))) (y := iZ z_22) rfl rfl ⟨by omega, by omega⟩ ⟨by omega, by omega⟩).mpr c_24
            refine lv_iconst (v := iZ 0) hx hb dX12_uniform_53 (by decide) ?_
            refine lv_iadd hx hb dX12_uniform_54 ?_
            refine lv_topi (fun x_25 ex_25 => ?_)
            obtain rfl : x_25 = iZ (v1_4 + 0) := ex_25.trans (iZ_add v1_4 0)
            refine lv_istore_n (lv' := [(1, .int (iZ (v1_4 + 0))), (2, .int (iZ v2_4)), (0, .ref hm)]) hx hb dX12_uniform_55 rfl hl (by decide) rfl (fun ls hl => ?_)
            refine lv_iinc (v := iZ (v2_4 + 1)) (lv' := [(2, .int (iZ (v2_4 + 1))), (1, .int (iZ (v1_4 + 0))), (0, .ref hm)]) hx hb dX12_uniform_56 hl (k := 1) rfl (iZ_add v2_4 1) (by decide) rfl (fun ls hl => ?_)
            refine lv_goto (tgt := 4) hx hb dX12_uniform_59 (by decide) ?_
            exact ih4  (v1_4 + 0) (v2_4 + 1) _ _ _ (by omega) (show (0 ≤ (v2_4 + 1) ∧ (v2_4 + 1) ≤ (gz Af 3) + 1) from ⟨by omega, by omega⟩) (hP.sub [0, 1] rfl) (hD.sub [0, 1] rfl rfl) hS (lv_sub hl [0, 1, 2] rfl)
          ·
            have c_24 := (zeq (x := iZ (gz Af (118 + v2_4))) (y := iZ z_22) rfl rfl ⟨by omega, by omega⟩ ⟨by omega, by omega⟩).mp c_24
            refine lv_iconst (v := iZ 1) hx hb dX12_uniform_49 (by decide) ?_
            refine lv_goto (tgt := 54) hx hb dX12_uniform_50 (by decide) ?_
            refine lv_iadd hx hb dX12_uniform_54 ?_
            refine lv_topi (fun x_26 ex_26 => ?_)
            obtain rfl : x_26 = iZ (v1_4 + 1) := ex_26.trans (iZ_add v1_4 1)
            refine lv_istore_n (lv' := [(1, .int (iZ (v1_4 + 1))), (2, .int (iZ v2_4)), (0, .ref hm)]) hx hb dX12_uniform_55 rfl hl (by decide) rfl (fun ls hl => ?_)
            refine lv_iinc (v := iZ (v2_4 + 1)) (lv' := [(2, .int (iZ (v2_4 + 1))), (1, .int (iZ (v1_4 + 1))), (0, .ref hm)]) hx hb dX12_uniform_56 hl (k := 1) rfl (iZ_add v2_4 1) (by decide) rfl (fun ls hl => ?_)
            refine lv_goto (tgt := 4) hx hb dX12_uniform_59 (by decide) ?_
            exact ih4  (v1_4 + 1) (v2_4 + 1) _ _ _ (by omega) (show (0 ≤ (v2_4 + 1) ∧ (v2_4 + 1) ≤ (gz Af 3) + 1) from ⟨by omega, by omega⟩) (hP.sub [0, 1] rfl) (hD.sub [0, 1] rfl rfl) hS (lv_sub hl [0, 1, 2] rfl)
  exact HL4 404 0 0 _ _ _ (by omega) (show (0 ≤ 0 ∧ 0 ≤ (gz Af 3) + 1) from ⟨by omega, by omega⟩) (hP.sub [0, 1] rfl) (hD.sub [0, 1] rfl rfl) hS (lv_sub hl [0, 1, 2] rfl)
set_option maxHeartbeats 4000000 in
set_option maxRecDepth 100000 in
theorem q_changes (l : Launch) (D : va_G) (k : Nat → ClassId) (hm : Nat) (Ma : Nat) (Mn : Nat) (Ms : Nat) (My : Nat) (Mt : Nat) (Mp : Nat) (Mx : Nat) (Mo : Nat) (Mk : Nat) (Ml : Nat) (Mb : Nat) (Mh : Nat) (Mc : Nat) (Mz : Nat) (Mr : Nat) (Mq : Nat) (Mst : Int) (Mtd : Int) (Msz : Int) (Mtk : Int) (Mfr : Int) (Men : Int) (Mva : Int) (Mfk : Int) (Mfp : Int) (Mfs : Int) (Mse : Int) (Mlt : Int) (Mdp : Int) (Mct : Int) (Mdr : Int) (Mrs : Int) (Mit : Int) (Mmk : Int) (Mtp : Int64) (Mbt : Int64) (Af : Nat → Int32) (x1 : Int) (hM : M0 Af) (h9x1 : -2147483648 ≤ x1 ∧ x1 < 2147483648) : WD (σ := ((Nat → Int) × (Nat → Int64) × (Nat → Nat → Int32) × (Nat → Nat → Int64))) l yX12_changes cX12_changes 4 (some .int) 1 0 0 D k [.ref hm, .int (iZ x1)] [(hm, .inr (12, [.ref Ma, .ref Mn, .int (iZ Mst), .long Mtp, .long Mbt, .ref Ms, .ref My, .ref Mt, .ref Mp, .ref Mx, .int (iZ Mtd), .int (iZ Msz), .int (iZ Mtk), .int (iZ Mfr), .int (iZ Men), .int (iZ Mva), .int (iZ Mfk), .int (iZ Mfp), .int (iZ Mfs), .int (iZ Mse), .int (iZ Mlt), .ref Mo, .int (iZ Mdp), .int (iZ Mct), .ref Mk, .ref Ml, .ref Mb, .ref Mh, .ref Mc, .int (iZ Mdr), .int (iZ Mrs), .ref Mz, .ref Mr, .ref Mq, .int (iZ Mit), .int (iZ Mmk)])), (Ma, .inl (k 1, 5340, .inl Af))] (fun u => some (.int (iZ (u.1 0)))) (fun _ => True) (fun u => [(hm, .inr (12, [.ref Ma, .ref Mn, .int (iZ (u.1 1)), .long Mtp, .long Mbt, .ref Ms, .ref My, .ref Mt, .ref Mp, .ref Mx, .int (iZ Mtd), .int (iZ Msz), .int (iZ Mtk), .int (iZ Mfr), .int (iZ Men), .int (iZ Mva), .int (iZ Mfk), .int (iZ Mfp), .int (iZ Mfs), .int (iZ Mse), .int (iZ Mlt), .ref Mo, .int (iZ Mdp), .int (iZ Mct), .ref Mk, .ref Ml, .ref Mb, .ref Mh, .ref Mc, .int (iZ Mdr), .int (iZ Mrs), .ref Mz, .ref Mr, .ref Mq, .int (iZ Mit), .int (iZ Mmk)])), (Ma, .inl (k 1, 5340, .inl Af))]) := by
  refine MW (by decide) (Nat.le_of_ble_eq_true rfl) (fun p e s m below meth c ls A hx hb hml hr hlocks hin hts hown hKK hP hD hS hA hl => ?_)
  have hK := hKK.1
  have hl : lv_has ls 4 [(0, .ref hm), (1, .int (iZ x1))] := hl
  obtain ⟨m0, m1, m3, m4, m5, mF, mO, mS⟩ := id hM
  refine lv_aload_n hx hb dX12_changes_0 rfl (lv_at hl 0 rfl) ?_
  refine lv_iload_n hx hb dX12_changes_1 rfl (lv_at hl 1 rfl) ?_
  refine CPV (As := [.int (iZ x1)]) (rest := []) hx hb hml hown hts hKK hP (m_isRock l D k ([.ref Ma, .ref Mn, .int (iZ Mst), .long Mtp, .long Mbt, .ref Ms, .ref My, .ref Mt, .ref Mp, .ref Mx, .int (iZ Mtd), .int (iZ Msz), .int (iZ Mtk), .int (iZ Mfr), .int (iZ Men), .int (iZ Mva), .int (iZ Mfk), .int (iZ Mfp), .int (iZ Mfs), .int (iZ Mse), .int (iZ Mlt), .ref Mo, .int (iZ Mdp), .int (iZ Mct), .ref Mk, .ref Ml, .ref Mb, .ref Mh, .ref Mc, .int (iZ Mdr), .int (iZ Mrs), .ref Mz, .ref Mr, .ref Mq, .int (iZ Mit), .int (iZ Mmk)]) hm Ma Af x1 rfl hM ⟨by omega, by omega⟩) ci_X12_isRock qm_X12_243 ⟨Nat.le_of_ble_eq_true rfl, Nat.le_of_ble_eq_true rfl⟩ ⟨Nat.le_of_ble_eq_true rfl, Nat.le_of_ble_eq_true rfl⟩ 0 rfl rfl rfl hl.1 rfl (Nat.le_of_ble_eq_true rfl) dX12_changes_2 (fun z_1 hz_1 => ?_)
  rcases hz_1 with ⟨qz_1, hz_1⟩ | ⟨qz_1, hz_1⟩
  ·
    subst qz_1
    refine lv_if_ne (tgt := 14) hx hb dX12_changes_5 (by decide) (fun _ => ?_) (fun c => absurd c (by decide))
    refine lv_iconst (v := iZ 0) hx hb dX12_changes_14 (by decide) ?_
    refine lv_istore_n (lv' := [(2, .int (iZ 0)), (0, .ref hm), (1, .int (iZ x1))]) hx hb dX12_changes_15 rfl hl (by decide) rfl (fun ls hl => ?_)
    refine lv_iconst (v := iZ 1) hx hb dX12_changes_16 (by decide) ?_
    refine lv_istore_n (lv' := [(3, .int (iZ 1)), (2, .int (iZ 0)), (0, .ref hm), (1, .int (iZ x1))]) hx hb dX12_changes_17 rfl hl (by decide) rfl (fun ls hl => ?_)
    have HL18 : ∀ (fu : Nat) (v2_18 : Int) (v3_18 : Int) (H : Heap) (locs : List Loc) (ls : Array Slot), ((gz Af 3) + 2 - v3_18) < (fu : Int) → ((1 ≤ v3_18 ∧ v3_18 ≤ (gz Af 3) + 1)) → va_P D vwCl [(hm, .inr (12, [.ref Ma, .ref Mn, .int (iZ Mst), .long Mtp, .long Mbt, .ref Ms, .ref My, .ref Mt, .ref Mp, .ref Mx, .int (iZ Mtd), .int (iZ Msz), .int (iZ Mtk), .int (iZ Mfr), .int (iZ Men), .int (iZ Mva), .int (iZ Mfk), .int (iZ Mfp), .int (iZ Mfs), .int (iZ Mse), .int (iZ Mlt), .ref Mo, .int (iZ Mdp), .int (iZ Mct), .ref Mk, .ref Ml, .ref Mb, .ref Mh, .ref Mc, .int (iZ Mdr), .int (iZ Mrs), .ref Mz, .ref Mr, .ref Mq, .int (iZ Mit), .int (iZ Mmk)])), (Ma, .inl (k 1, 5340, .inl Af))] H → va_D A [(hm, .inr (12, [.ref Ma, .ref Mn, .int (iZ Mst), .long Mtp, .long Mbt, .ref Ms, .ref My, .ref Mt, .ref Mp, .ref Mx, .int (iZ Mtd), .int (iZ Msz), .int (iZ Mtk), .int (iZ Mfr), .int (iZ Men), .int (iZ Mva), .int (iZ Mfk), .int (iZ Mfp), .int (iZ Mfs), .int (iZ Mse), .int (iZ Mlt), .ref Mo, .int (iZ Mdp), .int (iZ Mct), .ref Mk, .ref Ml, .ref Mb, .ref Mh, .ref Mc, .int (iZ Mdr), .int (iZ Mrs), .ref Mz, .ref Mr, .ref Mq, .int (iZ Mit), .int (iZ Mmk)])), (Ma, .inl (k 1, 5340, .inl Af))] → va_S A s.heap H locs → lv_has ls 4 [(3, .int (iZ v3_18)), (2, .int (iZ v2_18)), (0, .ref hm), (1, .int (iZ x1))] → W p l e (rj 1 0 0) s m [.ref hm, .int (iZ x1)].toArray below meth c H locs 0 0 (MQ below (QW (σ := ((Nat → Int) × (Nat → Int64) × (Nat → Nat → Int32) × (Nat → Nat → Int64))) (fun u => some (.int (iZ (u.1 0)))) (fun _ => True) (fun u => [(hm, .inr (12, [.ref Ma, .ref Mn, .int (iZ (u.1 1)), .long Mtp, .long Mbt, .ref Ms, .ref My, .ref Mt, .ref Mp, .ref Mx, .int (iZ Mtd), .int (iZ Msz), .int (iZ Mtk), .int (iZ Mfr), .int (iZ Men), .int (iZ Mva), .int (iZ Mfk), .int (iZ Mfp), .int (iZ Mfs), .int (iZ Mse), .int (iZ Mlt), .ref Mo, .int (iZ Mdp), .int (iZ Mct), .ref Mk, .ref Ml, .ref Mb, .ref Mh, .ref Mc, .int (iZ Mdr), .int (iZ Mrs), .ref Mz, .ref Mr, .ref Mq, .int (iZ Mit), .int (iZ Mmk)])), (Ma, .inl (k 1, 5340, .inl Af))]) D A) [.ref hm, .int (iZ x1)].toArray s 0 0 A) (F0 m 18 ls []) := by
      intro fu
      induction fu with
      | zero => intro v2_18 v3_18 H locs ls hμ18 hi18 hP hD hS hl; exact absurd hμ18 (by omega)
      | succ fu ih18 =>
        intro v2_18 v3_18 H locs ls hμ18 hi18 hP hD hS hl
        refine lv_iload_n hx hb dX12_changes_18 rfl (lv_at hl 0 rfl) ?_
        refine lv_aload_n hx hb dX12_changes_19 rfl (lv_at hl 2 rfl) ?_
        refine va_get (D := D) (ci := 12) (v := .ref Ma) (C := RX12) (T := TX12) (N := 36) hx hb hts iX12 hown hK hP 0 rfl rfl 0 (by decide) (hts _ qf_X12_7) (fun _ h => h) rfl dX12_changes_20 ?_
        refine lv_iconst (v := iZ 3) hx hb dX12_changes_23 (by decide) ?_
        refine va_iald hx hb hK hP 1 1 rfl rfl (zin (e := 3) (n := 5340) ⟨by omega, by omega⟩ (by decide)) dX12_changes_24 ?_
        refine lv_topi (fun x_3 ex_3 => ?_)
        obtain rfl : x_3 = iZ (gz Af 3) := ex_3.trans (gz_eq ⟨by omega, by omega⟩)
        have h_4 := gz_rg Af 3
        refine lv_icmp_gt (tgt := 59) hx hb dX12_changes_25 (by decide) (fun c_5 => ?_) (fun c_5 => ?_)
        ·
          have c_5 := (zlt (x := iZ (gz Af 3)) (y := iZ v3_18) rfl rfl ⟨by omega, by omega⟩ ⟨by omega, by omega⟩).mp c_5
          refine lv_aload_n hx hb dX12_changes_59 rfl (lv_at hl 2 rfl) ?_
          refine lv_iload_n hx hb dX12_changes_60 rfl (lv_at hl 1 rfl) ?_
          refine CWV (As := [.int (iZ v2_18)]) (rest := []) (wc := [(hm, .inr (12, [.ref Ma, .ref Mn, .int (iZ Mst), .long Mtp, .long Mbt, .ref Ms, .ref My, .ref Mt, .ref Mp, .ref Mx, .int (iZ Mtd), .int (iZ Msz), .int (iZ Mtk), .int (iZ Mfr), .int (iZ Men), .int (iZ Mva), .int (iZ Mfk), .int (iZ Mfp), .int (iZ Mfs), .int (iZ Mse), .int (iZ Mlt), .ref Mo, .int (iZ Mdp), .int (iZ Mct), .ref Mk, .ref Ml, .ref Mb, .ref Mh, .ref Mc, .int (iZ Mdr), .int (iZ Mrs), .ref Mz, .ref Mr, .ref Mq, .int (iZ Mit), .int (iZ Mmk)]))]) (wr := [(Ma, .inl (k 1, 5340, .inl Af))]) hx hb hml hown hts hKK hP hD hS hA (m_gives l D k hm Ma Mn Ms My Mt Mp Mx Mo Mk Ml Mb Mh Mc Mz Mr Mq Mst Mtd Msz Mtk Mfr Men Mva Mfk Mfp Mfs Mse Mlt Mdp Mct Mdr Mrs Mit Mmk Mtp Mbt v2_18) ci_X12_gives qm_X12_85 ⟨Nat.le_of_ble_eq_true rfl, Nat.le_of_ble_eq_true rfl⟩ ⟨Nat.le_of_ble_eq_true rfl, Nat.le_of_ble_eq_true rfl⟩ [0] [1] rfl rfl rfl rfl rfl (by decide) 0 rfl rfl rfl hl.1 rfl (Nat.le_of_ble_eq_true rfl) dX12_changes_61 (fun u_6 H locs hφ hP hD hS => ?_)
          obtain ⟨I_7, L_8, F_9, G_10⟩ := u_6
          refine W.eq (g2 := F0 m 64 ls [.int (iZ v2_18)]) rfl ?_
          exact EWi hx hb hr hlocks hS (fun i => [v2_18, 0].getD i 0, fun i => [0].getD i 0, fun i => [].getD i (fun _ => 0), fun i => [].getD i (fun _ => 0)) rfl trivial (hP.sub [1, 0] rfl) (hD.sub [1, 0] rfl rfl) dX12_changes_64
        ·
          have c_5 := mt (zlt (x := iZ (gz Af 3)) (y := iZ v3_18) rfl rfl ⟨by omega, by omega⟩ ⟨by omega, by omega⟩).mpr c_5
          refine lv_iload_n hx hb dX12_changes_28 rfl (lv_at hl 1 rfl) ?_
          refine lv_aload_n hx hb dX12_changes_29 rfl (lv_at hl 2 rfl) ?_
          refine lv_iload_n hx hb dX12_changes_30 rfl (lv_at hl 3 rfl) ?_
          refine lv_iload_n hx hb dX12_changes_31 rfl (lv_at hl 0 rfl) ?_
          refine CPV (As := [.int (iZ x1), .int (iZ v3_18)]) (rest := [.int (iZ v2_18)]) hx hb hml hown hts hKK hP (m_wore l D k ([.ref Ma, .ref Mn, .int (iZ Mst), .long Mtp, .long Mbt, .ref Ms, .ref My, .ref Mt, .ref Mp, .ref Mx, .int (iZ Mtd), .int (iZ Msz), .int (iZ Mtk), .int (iZ Mfr), .int (iZ Men), .int (iZ Mva), .int (iZ Mfk), .int (iZ Mfp), .int (iZ Mfs), .int (iZ Mse), .int (iZ Mlt), .ref Mo, .int (iZ Mdp), .int (iZ Mct), .ref Mk, .ref Ml, .ref Mb, .ref Mh, .ref Mc, .int (iZ Mdr), .int (iZ Mrs), .ref Mz, .ref Mr, .ref Mq, .int (iZ Mit), .int (iZ Mmk)]) hm Ma Af x1 v3_18 rfl hM ⟨by omega, by omega⟩) ci_X12_woreIn qm_X12_363 ⟨Nat.le_of_ble_eq_true rfl, Nat.le_of_ble_eq_true rfl⟩ ⟨Nat.le_of_ble_eq_true rfl, Nat.le_of_ble_eq_true rfl⟩ 0 rfl rfl rfl hl.1 rfl (Nat.le_of_ble_eq_true rfl) dX12_changes_32 (fun z_12 hz_12 => ?_)
          have hbz_12 := hz_12.2
          refine lv_aload_n hx hb dX12_changes_35 rfl (lv_at hl 2 rfl) ?_
          refine lv_iload_n hx hb dX12_changes_36 rfl (lv_at hl 3 rfl) ?_
          refine lv_iload_n hx hb dX12_changes_37 rfl (lv_at hl 0 rfl) ?_
          refine lv_iconst (v := iZ 1) hx hb dX12_changes_38 (by decide) ?_
          refine lv_isub hx hb dX12_changes_39 ?_
          refine lv_topi (fun x_13 ex_13 => ?_)
          obtain rfl : x_13 = iZ (v3_18 - 1) := ex_13.trans (iZ_sub v3_18 1)
          refine CPV (As := [.int (iZ x1), .int (iZ (v3_18 - 1))]) (rest := [.int (iZ z_12), .int (iZ v2_18)]) hx hb hml hown hts hKK hP (m_wore l D k ([.ref Ma, .ref Mn, .int (iZ Mst), .long Mtp, .long Mbt, .ref Ms, .ref My, .ref Mt, .ref Mp, .ref Mx, .int (iZ Mtd), .int (iZ Msz), .int (iZ Mtk), .int (iZ Mfr), .int (iZ Men), .int (iZ Mva), .int (iZ Mfk), .int (iZ Mfp), .int (iZ Mfs), .int (iZ Mse), .int (iZ Mlt), .ref Mo, .int (iZ Mdp), .int (iZ Mct), .ref Mk, .ref Ml, .ref Mb, .ref Mh, .ref Mc, .int (iZ Mdr), .int (iZ Mrs), .ref Mz, .ref Mr, .ref Mq, .int (iZ Mit), .int (iZ Mmk)]) hm Ma Af x1 (v3_18 - 1) rfl hM ⟨by omega, by omega⟩) ci_X12_woreIn qm_X12_363 ⟨Nat.le_of_ble_eq_true rfl, Nat.le_of_ble_eq_true rfl⟩ ⟨Nat.le_of_ble_eq_true rfl, Nat.le_of_ble_eq_true rfl⟩ 0 rfl rfl rfl hl.1 rfl (Nat.le_of_ble_eq_true rfl) dX12_changes_40 (fun z_14 hz_14 => ?_)
          have hbz_14 := hz_14.2
          refine lv_icmp_ne (tgt := 50) hx hb dX12_changes_43 (by decide) (fun c_15 => ?_) (fun c_15 => ?_)
          ·
            have c_15 := mt (zeq (x := iZ z_12) (y := iZ z_14) rfl rfl ⟨by omega, by omega⟩ ⟨by omega, by omega⟩).mpr c_15
            refine lv_iconst (v := iZ 1) hx hb dX12_changes_50 (by decide) ?_
            refine lv_iadd hx hb dX12_changes_51 ?_
            refine lv_topi (fun x_16 ex_16 => ?_)
            obtain rfl : x_16 = iZ (v2_18 + 1) := ex_16.trans (iZ_add v2_18 1)
            refine lv_istore_n (lv' := [(2, .int (iZ (v2_18 + 1))), (3, .int (iZ v3_18)), (0, .ref hm), (1, .int (iZ x1))]) hx hb dX12_changes_52 rfl hl (by decide) rfl (fun ls hl => ?_)
            refine lv_iinc (v := iZ (v3_18 + 1)) (lv' := [(3, .int (iZ (v3_18 + 1))), (2, .int (iZ (v2_18 + 1))), (0, .ref hm), (1, .int (iZ x1))]) hx hb dX12_changes_53 hl (k := 1) rfl (iZ_add v3_18 1) (by decide) rfl (fun ls hl => ?_)
            refine lv_goto (tgt := 18) hx hb dX12_changes_56 (by decide) ?_
            exact ih18  (v2_18 + 1) (v3_18 + 1) _ _ _ (by omega) (show (1 ≤ (v3_18 + 1) ∧ (v3_18 + 1) ≤ (gz Af 3) + 1) from ⟨by omega, by omega⟩) (hP.sub [0, 1] rfl) (hD.sub [0, 1] rfl rfl) hS (lv_sub hl [0, 1, 2, 3] rfl)
          ·
            have c_15 := (zeq (x := iZ z_12) (y := iZ z_14) rfl rfl ⟨by omega, by omega⟩ ⟨by omega, by omega⟩).mp c_15
            refine lv_iconst (v := iZ 0) hx hb dX12_changes_46 (by decide) ?_
            refine lv_goto (tgt := 51) hx hb dX12_changes_47 (by decide) ?_
            refine lv_iadd hx hb dX12_changes_51 ?_
            refine lv_topi (fun x_17 ex_17 => ?_)
            obtain rfl : x_17 = iZ (v2_18 + 0) := ex_17.trans (iZ_add v2_18 0)
            refine lv_istore_n (lv' := [(2, .int (iZ (v2_18 + 0))), (3, .int (iZ v3_18)), (0, .ref hm), (1, .int (iZ x1))]) hx hb dX12_changes_52 rfl hl (by decide) rfl (fun ls hl => ?_)
            refine lv_iinc (v := iZ (v3_18 + 1)) (lv' := [(3, .int (iZ (v3_18 + 1))), (2, .int (iZ (v2_18 + 0))), (0, .ref hm), (1, .int (iZ x1))]) hx hb dX12_changes_53 hl (k := 1) rfl (iZ_add v3_18 1) (by decide) rfl (fun ls hl => ?_)
            refine lv_goto (tgt := 18) hx hb dX12_changes_56 (by decide) ?_
            exact ih18  (v2_18 + 0) (v3_18 + 1) _ _ _ (by omega) (show (1 ≤ (v3_18 + 1) ∧ (v3_18 + 1) ≤ (gz Af 3) + 1) from ⟨by omega, by omega⟩) (hP.sub [0, 1] rfl) (hD.sub [0, 1] rfl rfl) hS (lv_sub hl [0, 1, 2, 3] rfl)
    exact HL18 404 0 1 _ _ _ (by omega) (show (1 ≤ 1 ∧ 1 ≤ (gz Af 3) + 1) from ⟨by omega, by omega⟩) (hP.sub [0, 1] rfl) (hD.sub [0, 1] rfl rfl) hS (lv_sub hl [0, 1, 2, 3] rfl)
  ·
    subst qz_1
    refine lv_if_ne (tgt := 14) hx hb dX12_changes_5 (by decide) (fun c => absurd (by decide) c) (fun _ => ?_)
    refine lv_aload_n hx hb dX12_changes_8 rfl (lv_at hl 0 rfl) ?_
    refine lv_iconst (v := iZ 1) hx hb dX12_changes_9 (by decide) ?_
    refine CWV (As := [.int (iZ 1)]) (rest := []) (wc := [(hm, .inr (12, [.ref Ma, .ref Mn, .int (iZ Mst), .long Mtp, .long Mbt, .ref Ms, .ref My, .ref Mt, .ref Mp, .ref Mx, .int (iZ Mtd), .int (iZ Msz), .int (iZ Mtk), .int (iZ Mfr), .int (iZ Men), .int (iZ Mva), .int (iZ Mfk), .int (iZ Mfp), .int (iZ Mfs), .int (iZ Mse), .int (iZ Mlt), .ref Mo, .int (iZ Mdp), .int (iZ Mct), .ref Mk, .ref Ml, .ref Mb, .ref Mh, .ref Mc, .int (iZ Mdr), .int (iZ Mrs), .ref Mz, .ref Mr, .ref Mq, .int (iZ Mit), .int (iZ Mmk)]))]) (wr := [(Ma, .inl (k 1, 5340, .inl Af))]) hx hb hml hown hts hKK hP hD hS hA (m_refuse l D k hm Ma Mn Ms My Mt Mp Mx Mo Mk Ml Mb Mh Mc Mz Mr Mq Mst Mtd Msz Mtk Mfr Men Mva Mfk Mfp Mfs Mse Mlt Mdp Mct Mdr Mrs Mit Mmk Mtp Mbt 1) ci_X12_refuse qm_X12_81 ⟨Nat.le_of_ble_eq_true rfl, Nat.le_of_ble_eq_true rfl⟩ ⟨Nat.le_of_ble_eq_true rfl, Nat.le_of_ble_eq_true rfl⟩ [0] [1] rfl rfl rfl rfl rfl (by decide) 0 rfl rfl rfl hl.1 rfl (Nat.le_of_ble_eq_true rfl) dX12_changes_10 (fun u_19 H locs hφ hP hD hS => ?_)
    obtain ⟨I_20, L_21, F_22, G_23⟩ := u_19
    refine W.eq (g2 := F0 m 13 ls [.int (iZ (-1))]) rfl ?_
    exact EWi hx hb hr hlocks hS (fun i => [(-1), 1].getD i 0, fun i => [0].getD i 0, fun i => [].getD i (fun _ => 0), fun i => [].getD i (fun _ => 0)) rfl trivial (hP.sub [1, 0] rfl) (hD.sub [1, 0] rfl rfl) dX12_changes_13
set_option maxHeartbeats 4000000 in
set_option maxRecDepth 100000 in
theorem q_order (l : Launch) (D : va_G) (k : Nat → ClassId) (hm : Nat) (Ma : Nat) (Mn : Nat) (Ms : Nat) (My : Nat) (Mt : Nat) (Mp : Nat) (Mx : Nat) (Mo : Nat) (Mk : Nat) (Ml : Nat) (Mb : Nat) (Mh : Nat) (Mc : Nat) (Mz : Nat) (Mr : Nat) (Mq : Nat) (Mst : Int) (Mtd : Int) (Msz : Int) (Mtk : Int) (Mfr : Int) (Men : Int) (Mva : Int) (Mfk : Int) (Mfp : Int) (Mfs : Int) (Mse : Int) (Mlt : Int) (Mdp : Int) (Mct : Int) (Mdr : Int) (Mrs : Int) (Mit : Int) (Mmk : Int) (Mtp : Int64) (Mbt : Int64) (Af : Nat → Int32) (x1 : Int) (hM : M0 Af) (h9x1 : -2147483648 ≤ x1 ∧ x1 < 2147483648) : WD (σ := ((Nat → Int) × (Nat → Int64) × (Nat → Nat → Int32) × (Nat → Nat → Int64))) l yX12_order cX12_order 2 (some .int) 2 0 0 D k [.ref hm, .int (iZ x1)] [(hm, .inr (12, [.ref Ma, .ref Mn, .int (iZ Mst), .long Mtp, .long Mbt, .ref Ms, .ref My, .ref Mt, .ref Mp, .ref Mx, .int (iZ Mtd), .int (iZ Msz), .int (iZ Mtk), .int (iZ Mfr), .int (iZ Men), .int (iZ Mva), .int (iZ Mfk), .int (iZ Mfp), .int (iZ Mfs), .int (iZ Mse), .int (iZ Mlt), .ref Mo, .int (iZ Mdp), .int (iZ Mct), .ref Mk, .ref Ml, .ref Mb, .ref Mh, .ref Mc, .int (iZ Mdr), .int (iZ Mrs), .ref Mz, .ref Mr, .ref Mq, .int (iZ Mit), .int (iZ Mmk)])), (Ma, .inl (k 1, 5340, .inl Af))] (fun u => some (.int (iZ (u.1 0)))) (fun u => (M0 (u.2.2.1 0)) ∧ (FR (u.2.2.1 0) Af)) (fun u => [(hm, .inr (12, [.ref Ma, .ref Mn, .int (iZ (u.1 1)), .long Mtp, .long Mbt, .ref Ms, .ref My, .ref Mt, .ref Mp, .ref Mx, .int (iZ Mtd), .int (iZ Msz), .int (iZ Mtk), .int (iZ Mfr), .int (iZ Men), .int (iZ Mva), .int (iZ Mfk), .int (iZ Mfp), .int (iZ Mfs), .int (iZ Mse), .int (iZ Mlt), .ref Mo, .int (iZ Mdp), .int (iZ Mct), .ref Mk, .ref Ml, .ref Mb, .ref Mh, .ref Mc, .int (iZ Mdr), .int (iZ Mrs), .ref Mz, .ref Mr, .ref Mq, .int (iZ Mit), .int (iZ Mmk)])), (Ma, .inl (k 1, 5340, .inl (u.2.2.1 0)))]) := by
  refine MW (by decide) (Nat.le_of_ble_eq_true rfl) (fun p e s m below meth c ls A hx hb hml hr hlocks hin hts hown hKK hP hD hS hA hl => ?_)
  have hK := hKK.1
  have hl : lv_has ls 2 [(0, .ref hm), (1, .int (iZ x1))] := hl
  obtain ⟨m0, m1, m3, m4, m5, mF, mO, mS⟩ := id hM
  refine lv_aload_n hx hb dX12_order_0 rfl (lv_at hl 0 rfl) ?_
  refine lv_iload_n hx hb dX12_order_1 rfl (lv_at hl 1 rfl) ?_
  refine CPV (As := [.int (iZ x1)]) (rest := []) hx hb hml hown hts hKK hP (m_isRock l D k ([.ref Ma, .ref Mn, .int (iZ Mst), .long Mtp, .long Mbt, .ref Ms, .ref My, .ref Mt, .ref Mp, .ref Mx, .int (iZ Mtd), .int (iZ Msz), .int (iZ Mtk), .int (iZ Mfr), .int (iZ Men), .int (iZ Mva), .int (iZ Mfk), .int (iZ Mfp), .int (iZ Mfs), .int (iZ Mse), .int (iZ Mlt), .ref Mo, .int (iZ Mdp), .int (iZ Mct), .ref Mk, .ref Ml, .ref Mb, .ref Mh, .ref Mc, .int (iZ Mdr), .int (iZ Mrs), .ref Mz, .ref Mr, .ref Mq, .int (iZ Mit), .int (iZ Mmk)]) hm Ma Af x1 rfl hM ⟨by omega, by omega⟩) ci_X12_isRock qm_X12_243 ⟨Nat.le_of_ble_eq_true rfl, Nat.le_of_ble_eq_true rfl⟩ ⟨Nat.le_of_ble_eq_true rfl, Nat.le_of_ble_eq_true rfl⟩ 0 rfl rfl rfl hl.1 rfl (Nat.le_of_ble_eq_true rfl) dX12_order_2 (fun z_1 hz_1 => ?_)
  rcases hz_1 with ⟨qz_1, hz_1⟩ | ⟨qz_1, hz_1⟩
  ·
    subst qz_1
    refine lv_if_ne (tgt := 14) hx hb dX12_order_5 (by decide) (fun _ => ?_) (fun c => absurd c (by decide))
    refine lv_aload_n hx hb dX12_order_14 rfl (lv_at hl 0 rfl) ?_
    refine lv_iload_n hx hb dX12_order_15 rfl (lv_at hl 1 rfl) ?_
    refine CWV (As := [.int (iZ x1)]) (rest := []) (wc := [(hm, .inr (12, [.ref Ma, .ref Mn, .int (iZ Mst), .long Mtp, .long Mbt, .ref Ms, .ref My, .ref Mt, .ref Mp, .ref Mx, .int (iZ Mtd), .int (iZ Msz), .int (iZ Mtk), .int (iZ Mfr), .int (iZ Men), .int (iZ Mva), .int (iZ Mfk), .int (iZ Mfp), .int (iZ Mfs), .int (iZ Mse), .int (iZ Mlt), .ref Mo, .int (iZ Mdp), .int (iZ Mct), .ref Mk, .ref Ml, .ref Mb, .ref Mh, .ref Mc, .int (iZ Mdr), .int (iZ Mrs), .ref Mz, .ref Mr, .ref Mq, .int (iZ Mit), .int (iZ Mmk)])), (Ma, .inl (k 1, 5340, .inl Af))]) (wr := []) hx hb hml hown hts hKK hP hD hS hA (m_orders l D k ([.ref Ma, .ref Mn, .int (iZ Mst), .long Mtp, .long Mbt, .ref Ms, .ref My, .ref Mt, .ref Mp, .ref Mx, .int (iZ Mtd), .int (iZ Msz), .int (iZ Mtk), .int (iZ Mfr), .int (iZ Men), .int (iZ Mva), .int (iZ Mfk), .int (iZ Mfp), .int (iZ Mfs), .int (iZ Mse), .int (iZ Mlt), .ref Mo, .int (iZ Mdp), .int (iZ Mct), .ref Mk, .ref Ml, .ref Mb, .ref Mh, .ref Mc, .int (iZ Mdr), .int (iZ Mrs), .ref Mz, .ref Mr, .ref Mq, .int (iZ Mit), .int (iZ Mmk)]) hm Ma Af x1 rfl hM ⟨by omega, by omega⟩) ci_X12_orders qm_X12_321 ⟨Nat.le_of_ble_eq_true rfl, Nat.le_of_ble_eq_true rfl⟩ ⟨Nat.le_of_ble_eq_true rfl, Nat.le_of_ble_eq_true rfl⟩ [0, 1] [] rfl rfl rfl rfl rfl (by decide) 0 rfl rfl rfl hl.1 rfl (Nat.le_of_ble_eq_true rfl) dX12_order_16 (fun u_3 H locs hφ hP hD hS => ?_)
    obtain ⟨I_4, L_5, F_6, G_7⟩ := u_3
    obtain ⟨p_9, p_10, p_11⟩ : (M0 (F_6 0)) ∧ (FR (F_6 0) Af) ∧ ((I_4 0) = 0 ∨ (I_4 0) = 1) := hφ
    obtain ⟨m0m_12, m1m_12, m3m_12, m4m_12, m5m_12, mFm_12, mOm_12, mSm_12⟩ := id p_9
    have frm_12 := FR.z p_10
    refine W.eq (g2 := F0 m 19 ls [.int (iZ (I_4 0))]) rfl ?_
    rcases (show ((I_4 0) = 0) ∨ ((I_4 0) = 1) from (by omega)) with s_13 | s_13
    ·
      rw [s_13]
      refine lv_if_eq (tgt := 37) hx hb dX12_order_19 (by decide) (fun _ => ?_) (fun c => absurd (by decide) c)
      refine lv_aload_n hx hb dX12_order_37 rfl (lv_at hl 0 rfl) ?_
      refine lv_iconst (v := iZ 4) hx hb dX12_order_38 (by decide) ?_
      refine CWV (As := [.int (iZ 4)]) (rest := []) (wc := [(hm, .inr (12, [.ref Ma, .ref Mn, .int (iZ Mst), .long Mtp, .long Mbt, .ref Ms, .ref My, .ref Mt, .ref Mp, .ref Mx, .int (iZ Mtd), .int (iZ Msz), .int (iZ Mtk), .int (iZ Mfr), .int (iZ Men), .int (iZ Mva), .int (iZ Mfk), .int (iZ Mfp), .int (iZ Mfs), .int (iZ Mse), .int (iZ Mlt), .ref Mo, .int (iZ Mdp), .int (iZ Mct), .ref Mk, .ref Ml, .ref Mb, .ref Mh, .ref Mc, .int (iZ Mdr), .int (iZ Mrs), .ref Mz, .ref Mr, .ref Mq, .int (iZ Mit), .int (iZ Mmk)]))]) (wr := [(Ma, .inl (k 1, 5340, .inl (F_6 0)))]) hx hb hml hown hts hKK hP hD hS hA (m_refuse l D k hm Ma Mn Ms My Mt Mp Mx Mo Mk Ml Mb Mh Mc Mz Mr Mq Mst Mtd Msz Mtk Mfr Men Mva Mfk Mfp Mfs Mse Mlt Mdp Mct Mdr Mrs Mit Mmk Mtp Mbt 4) ci_X12_refuse qm_X12_81 ⟨Nat.le_of_ble_eq_true rfl, Nat.le_of_ble_eq_true rfl⟩ ⟨Nat.le_of_ble_eq_true rfl, Nat.le_of_ble_eq_true rfl⟩ [0] [1] rfl rfl rfl rfl rfl (by decide) 0 rfl rfl rfl hl.1 rfl (Nat.le_of_ble_eq_true rfl) dX12_order_39 (fun u_15 H locs hφ hP hD hS => ?_)
      obtain ⟨I_16, L_17, F_18, G_19⟩ := u_15
      refine W.eq (g2 := F0 m 42 ls [.int (iZ (-1))]) rfl ?_
      exact EWi hx hb hr hlocks hS (fun i => [(-1), 4].getD i 0, fun i => [0].getD i 0, fun i => [(F_6 0)].getD i (fun _ => 0), fun i => [].getD i (fun _ => 0)) rfl ⟨(show M0 (F_6 0) from p_9), (show FR (F_6 0) Af from p_10)⟩ (hP.sub [1, 0] rfl) (hD.sub [1, 0] rfl rfl) dX12_order_42
    ·
      rw [s_13]
      refine lv_if_eq (tgt := 37) hx hb dX12_order_19 (by decide) (fun c => absurd c (by decide)) (fun _ => ?_)
      refine lv_aload_n hx hb dX12_order_22 rfl (lv_at hl 0 rfl) ?_
      refine lv_aload_n hx hb dX12_order_23 rfl (lv_at hl 0 rfl) ?_
      refine va_get (D := D) (ci := 12) (v := .ref Ma) (C := RX12) (T := TX12) (N := 36) hx hb hts iX12 hown hK hP 0 rfl rfl 0 (by decide) (hts _ qf_X12_7) (fun _ h => h) rfl dX12_order_24 ?_
      refine lv_iconst (v := iZ 4) hx hb dX12_order_27 (by decide) ?_
      refine va_iald hx hb hK hP 1 1 rfl rfl (zin (e := 4) (n := 5340) ⟨by omega, by omega⟩ (by decide)) dX12_order_28 ?_
      refine lv_topi (fun x_22 ex_22 => ?_)
      obtain rfl : x_22 = iZ (gz (F_6 0) 4) := ex_22.trans (gz_eq ⟨by omega, by omega⟩)
      have h_23 := gz_rg (F_6 0) 4
      refine lv_iconst (v := iZ 1) hx hb dX12_order_29 (by decide) ?_
      refine lv_isub hx hb dX12_order_30 ?_
      refine lv_topi (fun x_24 ex_24 => ?_)
      obtain rfl : x_24 = iZ ((gz (F_6 0) 4) - 1) := ex_24.trans (iZ_sub (gz (F_6 0) 4) 1)
      refine CWV (As := [.int (iZ ((gz (F_6 0) 4) - 1))]) (rest := []) (wc := [(hm, .inr (12, [.ref Ma, .ref Mn, .int (iZ Mst), .long Mtp, .long Mbt, .ref Ms, .ref My, .ref Mt, .ref Mp, .ref Mx, .int (iZ Mtd), .int (iZ Msz), .int (iZ Mtk), .int (iZ Mfr), .int (iZ Men), .int (iZ Mva), .int (iZ Mfk), .int (iZ Mfp), .int (iZ Mfs), .int (iZ Mse), .int (iZ Mlt), .ref Mo, .int (iZ Mdp), .int (iZ Mct), .ref Mk, .ref Ml, .ref Mb, .ref Mh, .ref Mc, .int (iZ Mdr), .int (iZ Mrs), .ref Mz, .ref Mr, .ref Mq, .int (iZ Mit), .int (iZ Mmk)]))]) (wr := [(Ma, .inl (k 1, 5340, .inl (F_6 0)))]) hx hb hml hown hts hKK hP hD hS hA (m_gives l D k hm Ma Mn Ms My Mt Mp Mx Mo Mk Ml Mb Mh Mc Mz Mr Mq Mst Mtd Msz Mtk Mfr Men Mva Mfk Mfp Mfs Mse Mlt Mdp Mct Mdr Mrs Mit Mmk Mtp Mbt ((gz (F_6 0) 4) - 1)) ci_X12_gives qm_X12_85 ⟨Nat.le_of_ble_eq_true rfl, Nat.le_of_ble_eq_true rfl⟩ ⟨Nat.le_of_ble_eq_true rfl, Nat.le_of_ble_eq_true rfl⟩ [0] [1] rfl rfl rfl rfl rfl (by decide) 0 rfl rfl rfl hl.1 rfl (Nat.le_of_ble_eq_true rfl) dX12_order_31 (fun u_25 H locs hφ hP hD hS => ?_)
      obtain ⟨I_26, L_27, F_28, G_29⟩ := u_25
      refine W.eq (g2 := F0 m 34 ls [.int (iZ ((gz (F_6 0) 4) - 1))]) rfl ?_
      refine lv_goto (tgt := 42) hx hb dX12_order_34 (by decide) ?_
      exact EWi hx hb hr hlocks hS (fun i => [((gz (F_6 0) 4) - 1), 0].getD i 0, fun i => [0].getD i 0, fun i => [(F_6 0)].getD i (fun _ => 0), fun i => [].getD i (fun _ => 0)) rfl ⟨(show M0 (F_6 0) from p_9), (show FR (F_6 0) Af from p_10)⟩ (hP.sub [1, 0] rfl) (hD.sub [1, 0] rfl rfl) dX12_order_42
  ·
    subst qz_1
    refine lv_if_ne (tgt := 14) hx hb dX12_order_5 (by decide) (fun c => absurd (by decide) c) (fun _ => ?_)
    refine lv_aload_n hx hb dX12_order_8 rfl (lv_at hl 0 rfl) ?_
    refine lv_iconst (v := iZ 1) hx hb dX12_order_9 (by decide) ?_
    refine CWV (As := [.int (iZ 1)]) (rest := []) (wc := [(hm, .inr (12, [.ref Ma, .ref Mn, .int (iZ Mst), .long Mtp, .long Mbt, .ref Ms, .ref My, .ref Mt, .ref Mp, .ref Mx, .int (iZ Mtd), .int (iZ Msz), .int (iZ Mtk), .int (iZ Mfr), .int (iZ Men), .int (iZ Mva), .int (iZ Mfk), .int (iZ Mfp), .int (iZ Mfs), .int (iZ Mse), .int (iZ Mlt), .ref Mo, .int (iZ Mdp), .int (iZ Mct), .ref Mk, .ref Ml, .ref Mb, .ref Mh, .ref Mc, .int (iZ Mdr), .int (iZ Mrs), .ref Mz, .ref Mr, .ref Mq, .int (iZ Mit), .int (iZ Mmk)]))]) (wr := [(Ma, .inl (k 1, 5340, .inl Af))]) hx hb hml hown hts hKK hP hD hS hA (m_refuse l D k hm Ma Mn Ms My Mt Mp Mx Mo Mk Ml Mb Mh Mc Mz Mr Mq Mst Mtd Msz Mtk Mfr Men Mva Mfk Mfp Mfs Mse Mlt Mdp Mct Mdr Mrs Mit Mmk Mtp Mbt 1) ci_X12_refuse qm_X12_81 ⟨Nat.le_of_ble_eq_true rfl, Nat.le_of_ble_eq_true rfl⟩ ⟨Nat.le_of_ble_eq_true rfl, Nat.le_of_ble_eq_true rfl⟩ [0] [1] rfl rfl rfl rfl rfl (by decide) 0 rfl rfl rfl hl.1 rfl (Nat.le_of_ble_eq_true rfl) dX12_order_10 (fun u_32 H locs hφ hP hD hS => ?_)
    obtain ⟨I_33, L_34, F_35, G_36⟩ := u_32
    refine W.eq (g2 := F0 m 13 ls [.int (iZ (-1))]) rfl ?_
    exact EWi hx hb hr hlocks hS (fun i => [(-1), 1].getD i 0, fun i => [0].getD i 0, fun i => [Af].getD i (fun _ => 0), fun i => [].getD i (fun _ => 0)) rfl ⟨(show M0 Af from hM), (show FR Af Af from (FR.rf Af))⟩ (hP.sub [1, 0] rfl) (hD.sub [1, 0] rfl rfl) dX12_order_13
