section
set_option maxHeartbeats 4000000 in
set_option maxRecDepth 100000 in
theorem r_pass (l : Launch) (D : va_G) (k : Nat → ClassId) (hm : Nat) (Ma : Nat) (Mn : Nat) (Ms : Nat) (My : Nat) (Mt : Nat) (Mp : Nat) (Mx : Nat) (Mo : Nat) (Mk : Nat) (Ml : Nat) (Mb : Nat) (Mh : Nat) (Mc : Nat) (Mz : Nat) (Mr : Nat) (Mq : Nat) (Mst : Int) (Mtd : Int) (Msz : Int) (Mtk : Int) (Mfr : Int) (Men : Int) (Mva : Int) (Mfk : Int) (Mfp : Int) (Mfs : Int) (Mse : Int) (Mlt : Int) (Mdp : Int) (Mct : Int) (Mdr : Int) (Mrs : Int) (Mit : Int) (Mmk : Int) (Mtp : Int64) (Mbt : Int64) (Af : Nat → Int32) (x1 : Int) (hM : M0 Af) (h9x1 : -2147483648 ≤ x1 ∧ x1 < 2147483648) : WD (σ := ((Int × Int) × (Int64) × ((Nat → Int32)) × (Unit))) l yX12_pass cX12_pass 4 (some .int) 8 0 0 D k [.ref hm, .int (iZ x1)] [(hm, .inr (12, [.ref Ma, .ref Mn, .int (iZ Mst), .long Mtp, .long Mbt, .ref Ms, .ref My, .ref Mt, .ref Mp, .ref Mx, .int (iZ Mtd), .int (iZ Msz), .int (iZ Mtk), .int (iZ Mfr), .int (iZ Men), .int (iZ Mva), .int (iZ Mfk), .int (iZ Mfp), .int (iZ Mfs), .int (iZ Mse), .int (iZ Mlt), .ref Mo, .int (iZ Mdp), .int (iZ Mct), .ref Mk, .ref Ml, .ref Mb, .ref Mh, .ref Mc, .int (iZ Mdr), .int (iZ Mrs), .ref Mz, .ref Mr, .ref Mq, .int (iZ Mit), .int (iZ Mmk)])), (Ma, .inl (k 1, 5340, .inl Af))] (fun u => some (.int (iZ u.1.1))) (fun u => (M0 u.2.2.1) ∧ (FR u.2.2.1 Af) ∧ ((((1 ≤ x1 ∧ x1 ≤ 99) ∧ gz Af 3 + x1 ≤ 400) ∧ u.1.1 = gz u.2.2.1 3 ∧ (rL u.2.2.1) = plF (eR Af) x1 (rL Af)) ∨ (¬ ((1 ≤ x1 ∧ x1 ≤ 99) ∧ gz Af 3 + x1 ≤ 400) ∧ (u.1.1 : Int) = -1 ∧ u.2.2.1 = Af))) (fun u => [(hm, .inr (12, [.ref Ma, .ref Mn, .int (iZ u.1.2), .long Mtp, .long Mbt, .ref Ms, .ref My, .ref Mt, .ref Mp, .ref Mx, .int (iZ Mtd), .int (iZ Msz), .int (iZ Mtk), .int (iZ Mfr), .int (iZ Men), .int (iZ Mva), .int (iZ Mfk), .int (iZ Mfp), .int (iZ Mfs), .int (iZ Mse), .int (iZ Mlt), .ref Mo, .int (iZ Mdp), .int (iZ Mct), .ref Mk, .ref Ml, .ref Mb, .ref Mh, .ref Mc, .int (iZ Mdr), .int (iZ Mrs), .ref Mz, .ref Mr, .ref Mq, .int (iZ Mit), .int (iZ Mmk)])), (Ma, .inl (k 1, 5340, .inl u.2.2.1))]) := by
  refine MW (by decide) (Nat.le_of_ble_eq_true rfl) (fun p e s m below meth c ls A hx hb hml hr hlocks hin hts hown hKK hP hD hS hA hl => ?_)
  have hK := hKK.1
  have hl : lv_has ls 4 [(0, .ref hm), (1, .int (iZ x1))] := hl
  obtain ⟨m0, m1, m3, m4, m5, mF, mO, mS⟩ := id hM
  refine lv_iload_n hx hb dX12_pass_0 rfl (lv_at hl 1 rfl) ?_
  refine lv_i2l (v := (iZ x1).toInt64) hx hb dX12_pass_1 rfl ?_
  refine lv_lconst (v := 1) hx hb dX12_pass_2 rfl ?_
  refine lv_ldc2 (own := RX12) (v := 99) hx hb hown (hts _ qk_X12_369) dX12_pass_3 ?_
  refine CPS (As := [.long ((iZ x1).toInt64), .long 1, .long 99]) (rest := []) hx hb hml hown hts hKK (hP.sub (ws' := []) [] rfl) (m_isFrom l D k ((iZ x1).toInt64) 1 99) ci_X12_isFrom qm_X12_295 ⟨Nat.le_of_ble_eq_true rfl, Nat.le_of_ble_eq_true rfl⟩ ⟨Nat.le_of_ble_eq_true rfl, Nat.le_of_ble_eq_true rfl⟩ rfl hl.1 rfl (Nat.le_of_ble_eq_true rfl) dX12_pass_6 (fun z_1 hz_1 => ?_)
  have tt_2_z_1 := tI64 (z := x1) ⟨by omega, by omega⟩
  have tt_3_z_1 := show (1 : Int64).toInt = 1 from (by decide)
  have tt_4_z_1 := show (99 : Int64).toInt = 99 from (by decide)
  rcases hz_1 with ⟨qz_1, hz_1⟩ | ⟨qz_1, hz_1⟩
  ·
    subst qz_1
    refine lv_if_ne (tgt := 18) hx hb dX12_pass_9 rfl (fun _ => ?_) (fun c => absurd c (by decide))
    refine lv_aload_n hx hb dX12_pass_18 rfl (lv_at hl 0 rfl) ?_
    refine va_get (D := D) (ci := 12) (v := .ref Ma) (C := RX12) (T := TX12) (N := 36) hx hb hts iX12 hown hK hP 0 rfl rfl 0 (bl rfl) (hts _ qf_X12_7) (fun _ h => h) rfl dX12_pass_19 ?_
    refine lv_iconst (v := iZ 3) hx hb dX12_pass_22 rfl ?_
    refine va_iald hx hb hK hP 1 1 rfl rfl (zin (e := 3) (n := 5340) ⟨by omega, by omega⟩ (bl rfl)) dX12_pass_23 ?_
    refine lv_topi (fun x_6 ex_6 => ?_)
    obtain rfl : x_6 = iZ (gz Af 3) := ex_6.trans (gz_eq ⟨by omega, by omega⟩)
    have h_7 := gz_rg Af 3
    refine lv_iload_n hx hb dX12_pass_24 rfl (lv_at hl 1 rfl) ?_
    refine lv_iadd hx hb dX12_pass_25 ?_
    refine lv_topi (fun x_8 ex_8 => ?_)
    obtain rfl : x_8 = iZ ((gz Af 3) + x1) := ex_8.trans (iZ_add (gz Af 3) x1)
    refine lv_sipush (v := iZ 400) hx hb dX12_pass_26 sip_400 ?_
    refine lv_icmp_le (tgt := 38) hx hb dX12_pass_29 rfl (fun c_9 => ?_) (fun c_9 => ?_)
    ·
      have c_9 := (zle (x := iZ ((gz Af 3) + x1)) (y := iZ 400) rfl rfl ⟨by omega, by omega⟩ wn_400).mp c_9
      refine lv_iconst (v := iZ 1) hx hb dX12_pass_38 rfl ?_
      refine lv_istore_n (lv' := [(2, .int (iZ 1)), (0, .ref hm), (1, .int (iZ x1))]) hx hb dX12_pass_39 rfl hl (bl rfl) rfl (fun ls hl => ?_)
      refine lv_iconst (v := iZ 0) hx hb dX12_pass_40 rfl ?_
      refine lv_istore_n (lv' := [(3, .int (iZ 0)), (2, .int (iZ 1)), (0, .ref hm), (1, .int (iZ x1))]) hx hb dX12_pass_41 rfl hl (bl rfl) rfl (fun ls hl => ?_)
      have HL42 : ∀ (fu : Nat) (v2_42 : Int) (v3_42 : Int) (Afq42 : Nat → Int32) (H : Heap) (locs : List Loc) (ls : Array Slot), ((x1 - 1) + 2 - v3_42) < (fu : Int) → ((0 ≤ v3_42 ∧ v3_42 ≤ (x1 - 1) + 1)) → (v2_42 = 1) → (rL Afq42 = plF (eR Af) v3_42 (rL Af) ∧ gz Afq42 3 = gz Af 3 + v3_42) → (M0 Afq42) → (FR Afq42 Af) → va_P D vwCl [(hm, .inr (12, [.ref Ma, .ref Mn, .int (iZ Mst), .long Mtp, .long Mbt, .ref Ms, .ref My, .ref Mt, .ref Mp, .ref Mx, .int (iZ Mtd), .int (iZ Msz), .int (iZ Mtk), .int (iZ Mfr), .int (iZ Men), .int (iZ Mva), .int (iZ Mfk), .int (iZ Mfp), .int (iZ Mfs), .int (iZ Mse), .int (iZ Mlt), .ref Mo, .int (iZ Mdp), .int (iZ Mct), .ref Mk, .ref Ml, .ref Mb, .ref Mh, .ref Mc, .int (iZ Mdr), .int (iZ Mrs), .ref Mz, .ref Mr, .ref Mq, .int (iZ Mit), .int (iZ Mmk)])), (Ma, .inl (k 1, 5340, .inl Afq42))] H → va_D A [(hm, .inr (12, [.ref Ma, .ref Mn, .int (iZ Mst), .long Mtp, .long Mbt, .ref Ms, .ref My, .ref Mt, .ref Mp, .ref Mx, .int (iZ Mtd), .int (iZ Msz), .int (iZ Mtk), .int (iZ Mfr), .int (iZ Men), .int (iZ Mva), .int (iZ Mfk), .int (iZ Mfp), .int (iZ Mfs), .int (iZ Mse), .int (iZ Mlt), .ref Mo, .int (iZ Mdp), .int (iZ Mct), .ref Mk, .ref Ml, .ref Mb, .ref Mh, .ref Mc, .int (iZ Mdr), .int (iZ Mrs), .ref Mz, .ref Mr, .ref Mq, .int (iZ Mit), .int (iZ Mmk)])), (Ma, .inl (k 1, 5340, .inl Afq42))] → va_S A s.heap H locs → lv_has ls 4 [(3, .int (iZ v3_42)), (2, .int (iZ v2_42)), (0, .ref hm), (1, .int (iZ x1))] → W p l e (rj 8 0 0) s m [.ref hm, .int (iZ x1)].toArray below meth c H locs 0 0 (MQ below (QW (σ := ((Int × Int) × (Int64) × ((Nat → Int32)) × (Unit))) (fun u => some (.int (iZ u.1.1))) (fun u => (M0 u.2.2.1) ∧ (FR u.2.2.1 Af) ∧ ((((1 ≤ x1 ∧ x1 ≤ 99) ∧ gz Af 3 + x1 ≤ 400) ∧ u.1.1 = gz u.2.2.1 3 ∧ (rL u.2.2.1) = plF (eR Af) x1 (rL Af)) ∨ (¬ ((1 ≤ x1 ∧ x1 ≤ 99) ∧ gz Af 3 + x1 ≤ 400) ∧ (u.1.1 : Int) = -1 ∧ u.2.2.1 = Af))) (fun u => [(hm, .inr (12, [.ref Ma, .ref Mn, .int (iZ u.1.2), .long Mtp, .long Mbt, .ref Ms, .ref My, .ref Mt, .ref Mp, .ref Mx, .int (iZ Mtd), .int (iZ Msz), .int (iZ Mtk), .int (iZ Mfr), .int (iZ Men), .int (iZ Mva), .int (iZ Mfk), .int (iZ Mfp), .int (iZ Mfs), .int (iZ Mse), .int (iZ Mlt), .ref Mo, .int (iZ Mdp), .int (iZ Mct), .ref Mk, .ref Ml, .ref Mb, .ref Mh, .ref Mc, .int (iZ Mdr), .int (iZ Mrs), .ref Mz, .ref Mr, .ref Mq, .int (iZ Mit), .int (iZ Mmk)])), (Ma, .inl (k 1, 5340, .inl u.2.2.1))]) D A) [.ref hm, .int (iZ x1)].toArray s 0 0 A) (F0 m 42 ls []) := by
        intro fu
        induction fu with
        | zero => intro v2_42 v3_42 Afq42 H locs ls hμ42 hi42 hf0_42 hpl hM42 hF42 hP hD hS hl; exact absurd hμ42 (by omega)
        | succ fu ih42 =>
          intro v2_42 v3_42 Afq42 H locs ls hμ42 hi42 hf0_42 hpl hM42 hF42 hP hD hS hl
          obtain ⟨m0l42, m1l42, m3l42, m4l42, m5l42, mFl42, mOl42, mSl42⟩ := id hM42
          have frl42 := FR.z hF42
          refine lv_iload_n hx hb dX12_pass_42 rfl (lv_at hl 0 rfl) ?_
          refine lv_iload_n hx hb dX12_pass_43 rfl (lv_at hl 3 rfl) ?_
          refine lv_icmp_ge (tgt := 62) hx hb dX12_pass_44 rfl (fun c_10 => ?_) (fun c_10 => ?_)
          ·
            have c_10 := (zle (x := iZ x1) (y := iZ v3_42) rfl rfl ⟨by omega, by omega⟩ ⟨by omega, by omega⟩).mp c_10
            refine lv_aload_n hx hb dX12_pass_62 rfl (lv_at hl 2 rfl) ?_
            refine lv_aload_n hx hb dX12_pass_63 rfl (lv_at hl 2 rfl) ?_
            refine va_get (D := D) (ci := 12) (v := .ref Ma) (C := RX12) (T := TX12) (N := 36) hx hb hts iX12 hown hK hP 0 rfl rfl 0 (bl rfl) (hts _ qf_X12_7) (fun _ h => h) rfl dX12_pass_64 ?_
            refine lv_iconst (v := iZ 3) hx hb dX12_pass_67 rfl ?_
            refine va_iald hx hb hK hP 1 1 rfl rfl (zin (e := 3) (n := 5340) ⟨by omega, by omega⟩ (bl rfl)) dX12_pass_68 ?_
            refine lv_topi (fun x_11 ex_11 => ?_)
            obtain rfl : x_11 = iZ (gz Afq42 3) := ex_11.trans (gz_eq ⟨by omega, by omega⟩)
            have h_12 := gz_rg Afq42 3
            refine CWV (As := [.int (iZ (gz Afq42 3))]) (rest := []) (wc := _) (wr := [(Ma, .inl (k 1, 5340, .inl Afq42))]) hx hb hml hown hts hKK hP hD hS hA (m_gives l D k hm Ma Mn Ms My Mt Mp Mx Mo Mk Ml Mb Mh Mc Mz Mr Mq Mst Mtd Msz Mtk Mfr Men Mva Mfk Mfp Mfs Mse Mlt Mdp Mct Mdr Mrs Mit Mmk Mtp Mbt (gz Afq42 3)) ci_X12_gives qm_X12_85 ⟨Nat.le_of_ble_eq_true rfl, Nat.le_of_ble_eq_true rfl⟩ ⟨Nat.le_of_ble_eq_true rfl, Nat.le_of_ble_eq_true rfl⟩ [0] [1] rfl rfl rfl rfl rfl (dj rfl) 0 rfl rfl rfl hl.1 rfl (Nat.le_of_ble_eq_true rfl) dX12_pass_69 (fun u_13 H locs hφ hP hD hS => ?_)
            refine W.eq (g2 := F0 m 72 ls [.int (iZ (gz Afq42 3))]) rfl ?_
            exact EWi hx hb hr hlocks hS (((gz Afq42 3), 0), 0, Afq42, ()) rfl ⟨(show M0 Afq42 from hM42), (show FR Afq42 Af from hF42), (show (((1 ≤ x1 ∧ x1 ≤ 99) ∧ gz Af 3 + x1 ≤ 400) ∧ (gz Afq42 3) = gz Afq42 3 ∧ (rL Afq42) = plF (eR Af) x1 (rL Af)) ∨ (¬ ((1 ≤ x1 ∧ x1 ≤ 99) ∧ gz Af 3 + x1 ≤ 400) ∧ ((gz Afq42 3) : Int) = -1 ∧ Afq42 = Af) from (Or.inl ⟨by omega, rfl, by have e9 : v3_42 = x1 := (by omega); rw [e9] at hpl; exact hpl.1⟩))⟩ (hP.sub [1, 0] rfl) (hD.sub [1, 0] rfl rfl) dX12_pass_72
          ·
            have c_10 := mt (zle (x := iZ x1) (y := iZ v3_42) rfl rfl ⟨by omega, by omega⟩ ⟨by omega, by omega⟩).mpr c_10
            refine lv_iload_n hx hb dX12_pass_47 rfl (lv_at hl 1 rfl) ?_
            refine lv_if_eq (tgt := 62) hx hb dX12_pass_48 rfl (fun c_14 => ?_) (fun c_14 => ?_)
            ·
              have c_14 := (zeq (x := iZ v2_42) (y := iZ 0) rfl rfl ⟨by omega, by omega⟩ wn_0).mp c_14
              refine lv_aload_n hx hb dX12_pass_62 rfl (lv_at hl 2 rfl) ?_
              refine lv_aload_n hx hb dX12_pass_63 rfl (lv_at hl 2 rfl) ?_
              refine va_get (D := D) (ci := 12) (v := .ref Ma) (C := RX12) (T := TX12) (N := 36) hx hb hts iX12 hown hK hP 0 rfl rfl 0 (bl rfl) (hts _ qf_X12_7) (fun _ h => h) rfl dX12_pass_64 ?_
              refine lv_iconst (v := iZ 3) hx hb dX12_pass_67 rfl ?_
              refine va_iald hx hb hK hP 1 1 rfl rfl (zin (e := 3) (n := 5340) ⟨by omega, by omega⟩ (bl rfl)) dX12_pass_68 ?_
              refine lv_topi (fun x_15 ex_15 => ?_)
              obtain rfl : x_15 = iZ (gz Afq42 3) := ex_15.trans (gz_eq ⟨by omega, by omega⟩)
              have h_16 := gz_rg Afq42 3
              refine CWV (As := [.int (iZ (gz Afq42 3))]) (rest := []) (wc := _) (wr := [(Ma, .inl (k 1, 5340, .inl Afq42))]) hx hb hml hown hts hKK hP hD hS hA (m_gives l D k hm Ma Mn Ms My Mt Mp Mx Mo Mk Ml Mb Mh Mc Mz Mr Mq Mst Mtd Msz Mtk Mfr Men Mva Mfk Mfp Mfs Mse Mlt Mdp Mct Mdr Mrs Mit Mmk Mtp Mbt (gz Afq42 3)) ci_X12_gives qm_X12_85 ⟨Nat.le_of_ble_eq_true rfl, Nat.le_of_ble_eq_true rfl⟩ ⟨Nat.le_of_ble_eq_true rfl, Nat.le_of_ble_eq_true rfl⟩ [0] [1] rfl rfl rfl rfl rfl (dj rfl) 0 rfl rfl rfl hl.1 rfl (Nat.le_of_ble_eq_true rfl) dX12_pass_69 (fun u_17 H locs hφ hP hD hS => ?_)
              refine W.eq (g2 := F0 m 72 ls [.int (iZ (gz Afq42 3))]) rfl ?_
              exact EWi hx hb hr hlocks hS (((gz Afq42 3), 0), 0, Afq42, ()) rfl ⟨(show M0 Afq42 from hM42), (show FR Afq42 Af from hF42), (show (((1 ≤ x1 ∧ x1 ≤ 99) ∧ gz Af 3 + x1 ≤ 400) ∧ (gz Afq42 3) = gz Afq42 3 ∧ (rL Afq42) = plF (eR Af) x1 (rL Af)) ∨ (¬ ((1 ≤ x1 ∧ x1 ≤ 99) ∧ gz Af 3 + x1 ≤ 400) ∧ ((gz Afq42 3) : Int) = -1 ∧ Afq42 = Af) from (Or.inl ⟨by omega, rfl, by have e9 : v3_42 = x1 := (by omega); rw [e9] at hpl; exact hpl.1⟩))⟩ (hP.sub [1, 0] rfl) (hD.sub [1, 0] rfl rfl) dX12_pass_72
            ·
              have c_14 := mt (zeq (x := iZ v2_42) (y := iZ 0) rfl rfl ⟨by omega, by omega⟩ wn_0).mpr c_14
              refine lv_aload_n hx hb dX12_pass_51 rfl (lv_at hl 2 rfl) ?_
              refine CWV (As := []) (rest := []) (wc := _) (wr := []) hx hb hml hown hts hKK hP hD hS hA (r_goes l D k ([.ref Ma, .ref Mn, .int (iZ Mst), .long Mtp, .long Mbt, .ref Ms, .ref My, .ref Mt, .ref Mp, .ref Mx, .int (iZ Mtd), .int (iZ Msz), .int (iZ Mtk), .int (iZ Mfr), .int (iZ Men), .int (iZ Mva), .int (iZ Mfk), .int (iZ Mfp), .int (iZ Mfs), .int (iZ Mse), .int (iZ Mlt), .ref Mo, .int (iZ Mdp), .int (iZ Mct), .ref Mk, .ref Ml, .ref Mb, .ref Mh, .ref Mc, .int (iZ Mdr), .int (iZ Mrs), .ref Mz, .ref Mr, .ref Mq, .int (iZ Mit), .int (iZ Mmk)]) hm Ma Afq42 rfl hM42) ci_X12_goes qm_X12_371 ⟨Nat.le_of_ble_eq_true rfl, Nat.le_of_ble_eq_true rfl⟩ ⟨Nat.le_of_ble_eq_true rfl, Nat.le_of_ble_eq_true rfl⟩ [0, 1] [] rfl rfl rfl rfl rfl (dj rfl) 0 rfl rfl rfl hl.1 rfl (Nat.le_of_ble_eq_true rfl) dX12_pass_52 (fun u_18 H locs hφ hP hD hS => ?_)
              obtain ⟨p_19, p_20, p_21⟩ : (M0 u_18.2.2.1) ∧ (FR u_18.2.2.1 Afq42) ∧ (((u_18.1 : Int) = 0 ∧ gz Afq42 3 = 400 ∧ u_18.2.2.1 = Afq42) ∨ ((u_18.1 : Int) = 1 ∧ gz Afq42 3 < 400 ∧ rL u_18.2.2.1 = gsF (eR Afq42) (rL Afq42))) := hφ
              obtain ⟨m0m_22, m1m_22, m3m_22, m4m_22, m5m_22, mFm_22, mOm_22, mSm_22⟩ := id p_19
              have frm_22 := FR.z p_20
              refine W.eq (g2 := F0 m 55 ls [.int (iZ u_18.1)]) rfl ?_
              rcases (show (u_18.1 = 0) ∨ (u_18.1 = 1) from (by omega)) with s_23 | s_23
              ·
                rw [s_23]
                refine lv_istore_n (lv' := [(2, .int (iZ 0)), (3, .int (iZ v3_42)), (0, .ref hm), (1, .int (iZ x1))]) hx hb dX12_pass_55 rfl hl (bl rfl) rfl (fun ls hl => ?_)
                refine lv_iinc (v := iZ (v3_42 + 1)) (lv' := [(3, .int (iZ (v3_42 + 1))), (2, .int (iZ 0)), (0, .ref hm), (1, .int (iZ x1))]) hx hb dX12_pass_56 hl (k := 1) rfl (iZ_add v3_42 1) (by decide) rfl (fun ls hl => ?_)
                refine lv_goto (tgt := 42) hx hb dX12_pass_59 rfl ?_
                exact ih42  0 (v3_42 + 1) u_18.2.2.1 _ _ _ (by omega) (show (0 ≤ (v3_42 + 1) ∧ (v3_42 + 1) ≤ (x1 - 1) + 1) from ⟨by omega, by omega⟩) (show 0 = 1 from (by omega)) (show rL u_18.2.2.1 = plF (eR Af) (v3_42 + 1) (rL Af) ∧ gz u_18.2.2.1 3 = gz Af 3 + (v3_42 + 1) from (by have g9 := (p_21).resolve_left (fun z9 => by have q8 := z9.2.1; omega); exact ⟨by rw [plF_s (by omega), ← hpl.1, ← eR_fr hM hF42]; exact g9.2.2, by have q9 := gs_34 g9.2.2 g9.2.1; omega⟩)) (show M0 u_18.2.2.1 from p_19) (show FR u_18.2.2.1 Af from (FR.tr p_20 hF42)) (hP.sub [0, 1] rfl) (hD.sub [0, 1] rfl rfl) hS (lv_sub hl [0, 1, 2, 3] rfl)
              ·
                rw [s_23]
                refine lv_istore_n (lv' := [(2, .int (iZ 1)), (3, .int (iZ v3_42)), (0, .ref hm), (1, .int (iZ x1))]) hx hb dX12_pass_55 rfl hl (bl rfl) rfl (fun ls hl => ?_)
                refine lv_iinc (v := iZ (v3_42 + 1)) (lv' := [(3, .int (iZ (v3_42 + 1))), (2, .int (iZ 1)), (0, .ref hm), (1, .int (iZ x1))]) hx hb dX12_pass_56 hl (k := 1) rfl (iZ_add v3_42 1) (by decide) rfl (fun ls hl => ?_)
                refine lv_goto (tgt := 42) hx hb dX12_pass_59 rfl ?_
                exact ih42  1 (v3_42 + 1) u_18.2.2.1 _ _ _ (by omega) (show (0 ≤ (v3_42 + 1) ∧ (v3_42 + 1) ≤ (x1 - 1) + 1) from ⟨by omega, by omega⟩) (show 1 = 1 from (by omega)) (show rL u_18.2.2.1 = plF (eR Af) (v3_42 + 1) (rL Af) ∧ gz u_18.2.2.1 3 = gz Af 3 + (v3_42 + 1) from (by have g9 := (p_21).resolve_left (fun z9 => by have q8 := z9.2.1; omega); exact ⟨by rw [plF_s (by omega), ← hpl.1, ← eR_fr hM hF42]; exact g9.2.2, by have q9 := gs_34 g9.2.2 g9.2.1; omega⟩)) (show M0 u_18.2.2.1 from p_19) (show FR u_18.2.2.1 Af from (FR.tr p_20 hF42)) (hP.sub [0, 1] rfl) (hD.sub [0, 1] rfl rfl) hS (lv_sub hl [0, 1, 2, 3] rfl)
      exact HL42 104 1 0 Af _ _ _ (by omega) (show (0 ≤ 0 ∧ 0 ≤ (x1 - 1) + 1) from ⟨by omega, by omega⟩) (show 1 = 1 from (by omega)) (show rL Af = plF (eR Af) 0 (rL Af) ∧ gz Af 3 = gz Af 3 + 0 from ⟨rfl, by omega⟩) (show M0 Af from hM) (show FR Af Af from (FR.rf Af)) (hP.sub [0, 1] rfl) (hD.sub [0, 1] rfl rfl) hS (lv_sub hl [0, 1, 2, 3] rfl)
    ·
      have c_9 := mt (zle (x := iZ ((gz Af 3) + x1)) (y := iZ 400) rfl rfl ⟨by omega, by omega⟩ wn_400).mpr c_9
      refine lv_aload_n hx hb dX12_pass_32 rfl (lv_at hl 0 rfl) ?_
      refine lv_iconst (v := iZ 4) hx hb dX12_pass_33 rfl ?_
      refine CWV (As := [.int (iZ 4)]) (rest := []) (wc := _) (wr := [(Ma, .inl (k 1, 5340, .inl Af))]) hx hb hml hown hts hKK hP hD hS hA (m_refuse l D k hm Ma Mn Ms My Mt Mp Mx Mo Mk Ml Mb Mh Mc Mz Mr Mq Mst Mtd Msz Mtk Mfr Men Mva Mfk Mfp Mfs Mse Mlt Mdp Mct Mdr Mrs Mit Mmk Mtp Mbt 4) ci_X12_refuse qm_X12_81 ⟨Nat.le_of_ble_eq_true rfl, Nat.le_of_ble_eq_true rfl⟩ ⟨Nat.le_of_ble_eq_true rfl, Nat.le_of_ble_eq_true rfl⟩ [0] [1] rfl rfl rfl rfl rfl (dj rfl) 0 rfl rfl rfl hl.1 rfl (Nat.le_of_ble_eq_true rfl) dX12_pass_34 (fun u_24 H locs hφ hP hD hS => ?_)
      refine W.eq (g2 := F0 m 37 ls [.int (iZ (-1))]) rfl ?_
      exact EWi hx hb hr hlocks hS (((-1), 4), 0, Af, ()) rfl ⟨(show M0 Af from hM), (show FR Af Af from (FR.rf Af)), (show (((1 ≤ x1 ∧ x1 ≤ 99) ∧ gz Af 3 + x1 ≤ 400) ∧ (-1) = gz Af 3 ∧ (rL Af) = plF (eR Af) x1 (rL Af)) ∨ (¬ ((1 ≤ x1 ∧ x1 ≤ 99) ∧ gz Af 3 + x1 ≤ 400) ∧ ((-1) : Int) = -1 ∧ Af = Af) from (Or.inr ⟨by omega, rfl, rfl⟩))⟩ (hP.sub [1, 0] rfl) (hD.sub [1, 0] rfl rfl) dX12_pass_37
  ·
    subst qz_1
    refine lv_if_ne (tgt := 18) hx hb dX12_pass_9 rfl (fun c => absurd (by decide) c) (fun _ => ?_)
    refine lv_aload_n hx hb dX12_pass_12 rfl (lv_at hl 0 rfl) ?_
    refine lv_iconst (v := iZ 1) hx hb dX12_pass_13 rfl ?_
    refine CWV (As := [.int (iZ 1)]) (rest := []) (wc := _) (wr := [(Ma, .inl (k 1, 5340, .inl Af))]) hx hb hml hown hts hKK hP hD hS hA (m_refuse l D k hm Ma Mn Ms My Mt Mp Mx Mo Mk Ml Mb Mh Mc Mz Mr Mq Mst Mtd Msz Mtk Mfr Men Mva Mfk Mfp Mfs Mse Mlt Mdp Mct Mdr Mrs Mit Mmk Mtp Mbt 1) ci_X12_refuse qm_X12_81 ⟨Nat.le_of_ble_eq_true rfl, Nat.le_of_ble_eq_true rfl⟩ ⟨Nat.le_of_ble_eq_true rfl, Nat.le_of_ble_eq_true rfl⟩ [0] [1] rfl rfl rfl rfl rfl (dj rfl) 0 rfl rfl rfl hl.1 rfl (Nat.le_of_ble_eq_true rfl) dX12_pass_14 (fun u_26 H locs hφ hP hD hS => ?_)
    refine W.eq (g2 := F0 m 17 ls [.int (iZ (-1))]) rfl ?_
    exact EWi hx hb hr hlocks hS (((-1), 1), 0, Af, ()) rfl ⟨(show M0 Af from hM), (show FR Af Af from (FR.rf Af)), (show (((1 ≤ x1 ∧ x1 ≤ 99) ∧ gz Af 3 + x1 ≤ 400) ∧ (-1) = gz Af 3 ∧ (rL Af) = plF (eR Af) x1 (rL Af)) ∨ (¬ ((1 ≤ x1 ∧ x1 ≤ 99) ∧ gz Af 3 + x1 ≤ 400) ∧ ((-1) : Int) = -1 ∧ Af = Af) from (Or.inr ⟨by omega, rfl, rfl⟩))⟩ (hP.sub [1, 0] rfl) (hD.sub [1, 0] rfl rfl) dX12_pass_17
set_option maxHeartbeats 4000000 in
set_option maxRecDepth 100000 in
theorem r_wear (l : Launch) (D : va_G) (k : Nat → ClassId) (hm : Nat) (Ma : Nat) (Mn : Nat) (Ms : Nat) (My : Nat) (Mt : Nat) (Mp : Nat) (Mx : Nat) (Mo : Nat) (Mk : Nat) (Ml : Nat) (Mb : Nat) (Mh : Nat) (Mc : Nat) (Mz : Nat) (Mr : Nat) (Mq : Nat) (Mst : Int) (Mtd : Int) (Msz : Int) (Mtk : Int) (Mfr : Int) (Men : Int) (Mva : Int) (Mfk : Int) (Mfp : Int) (Mfs : Int) (Mse : Int) (Mlt : Int) (Mdp : Int) (Mct : Int) (Mdr : Int) (Mrs : Int) (Mit : Int) (Mmk : Int) (Mtp : Int64) (Mbt : Int64) (Af : Nat → Int32) (x1 : Int) (x2 : Int) (hM : M0 Af) (h9x1 : -2147483648 ≤ x1 ∧ x1 < 2147483648) (h9x2 : -2147483648 ≤ x2 ∧ x2 < 2147483648) : WD (σ := ((Int × Int) × (Int64) × ((Nat → Int32)) × (Unit))) l yX12_wear cX12_wear 3 (some .boolean) 1 0 0 D k [.ref hm, .int (iZ x1), .int (iZ x2)] [(hm, .inr (12, [.ref Ma, .ref Mn, .int (iZ Mst), .long Mtp, .long Mbt, .ref Ms, .ref My, .ref Mt, .ref Mp, .ref Mx, .int (iZ Mtd), .int (iZ Msz), .int (iZ Mtk), .int (iZ Mfr), .int (iZ Men), .int (iZ Mva), .int (iZ Mfk), .int (iZ Mfp), .int (iZ Mfs), .int (iZ Mse), .int (iZ Mlt), .ref Mo, .int (iZ Mdp), .int (iZ Mct), .ref Mk, .ref Ml, .ref Mb, .ref Mh, .ref Mc, .int (iZ Mdr), .int (iZ Mrs), .ref Mz, .ref Mr, .ref Mq, .int (iZ Mit), .int (iZ Mmk)])), (Ma, .inl (k 1, 5340, .inl Af))] (fun u => some (.int (iZ u.1.1))) (fun u => (M0 u.2.2.1) ∧ (FR u.2.2.1 Af) ∧ ((((0 ≤ x1 ∧ x1 < gz Af 0) ∧ 0 ≤ x2 ∧ x2 ≤ 1) ∧ (u.1.1 : Int) = 1 ∧ (rL u.2.2.1) = dsF x1 x2 (rL Af)) ∨ (¬ ((0 ≤ x1 ∧ x1 < gz Af 0) ∧ 0 ≤ x2 ∧ x2 ≤ 1) ∧ (u.1.1 : Int) = 0 ∧ u.2.2.1 = Af))) (fun u => [(hm, .inr (12, [.ref Ma, .ref Mn, .int (iZ u.1.2), .long Mtp, .long Mbt, .ref Ms, .ref My, .ref Mt, .ref Mp, .ref Mx, .int (iZ Mtd), .int (iZ Msz), .int (iZ Mtk), .int (iZ Mfr), .int (iZ Men), .int (iZ Mva), .int (iZ Mfk), .int (iZ Mfp), .int (iZ Mfs), .int (iZ Mse), .int (iZ Mlt), .ref Mo, .int (iZ Mdp), .int (iZ Mct), .ref Mk, .ref Ml, .ref Mb, .ref Mh, .ref Mc, .int (iZ Mdr), .int (iZ Mrs), .ref Mz, .ref Mr, .ref Mq, .int (iZ Mit), .int (iZ Mmk)])), (Ma, .inl (k 1, 5340, .inl u.2.2.1))]) := by
  refine MW (by decide) (Nat.le_of_ble_eq_true rfl) (fun p e s m below meth c ls A hx hb hml hr hlocks hin hts hown hKK hP hD hS hA hl => ?_)
  have hK := hKK.1
  have hl : lv_has ls 3 [(0, .ref hm), (1, .int (iZ x1)), (2, .int (iZ x2))] := hl
  obtain ⟨m0, m1, m3, m4, m5, mF, mO, mS⟩ := id hM
  refine lv_aload_n hx hb dX12_wear_0 rfl (lv_at hl 0 rfl) ?_
  refine lv_iload_n hx hb dX12_wear_1 rfl (lv_at hl 1 rfl) ?_
  refine CPV (As := [.int (iZ x1)]) (rest := []) hx hb hml hown hts hKK hP (m_isRock l D k ([.ref Ma, .ref Mn, .int (iZ Mst), .long Mtp, .long Mbt, .ref Ms, .ref My, .ref Mt, .ref Mp, .ref Mx, .int (iZ Mtd), .int (iZ Msz), .int (iZ Mtk), .int (iZ Mfr), .int (iZ Men), .int (iZ Mva), .int (iZ Mfk), .int (iZ Mfp), .int (iZ Mfs), .int (iZ Mse), .int (iZ Mlt), .ref Mo, .int (iZ Mdp), .int (iZ Mct), .ref Mk, .ref Ml, .ref Mb, .ref Mh, .ref Mc, .int (iZ Mdr), .int (iZ Mrs), .ref Mz, .ref Mr, .ref Mq, .int (iZ Mit), .int (iZ Mmk)]) hm Ma Af x1 rfl hM ⟨by omega, by omega⟩) ci_X12_isRock qm_X12_243 ⟨Nat.le_of_ble_eq_true rfl, Nat.le_of_ble_eq_true rfl⟩ ⟨Nat.le_of_ble_eq_true rfl, Nat.le_of_ble_eq_true rfl⟩ 0 rfl rfl rfl hl.1 rfl (Nat.le_of_ble_eq_true rfl) dX12_wear_2 (fun z_1 hz_1 => ?_)
  rcases hz_1 with ⟨qz_1, hz_1⟩ | ⟨qz_1, hz_1⟩
  ·
    subst qz_1
    refine lv_if_eq (tgt := 18) hx hb dX12_wear_5 rfl (fun c => absurd c (by decide)) (fun _ => ?_)
    refine lv_iload_n hx hb dX12_wear_8 rfl (lv_at hl 2 rfl) ?_
    refine lv_i2l (v := (iZ x2).toInt64) hx hb dX12_wear_9 rfl ?_
    refine lv_lconst (v := 0) hx hb dX12_wear_10 rfl ?_
    refine lv_lconst (v := 1) hx hb dX12_wear_11 rfl ?_
    refine CPS (As := [.long ((iZ x2).toInt64), .long 0, .long 1]) (rest := []) hx hb hml hown hts hKK (hP.sub (ws' := []) [] rfl) (m_isFrom l D k ((iZ x2).toInt64) 0 1) ci_X12_isFrom qm_X12_295 ⟨Nat.le_of_ble_eq_true rfl, Nat.le_of_ble_eq_true rfl⟩ ⟨Nat.le_of_ble_eq_true rfl, Nat.le_of_ble_eq_true rfl⟩ rfl hl.1 rfl (Nat.le_of_ble_eq_true rfl) dX12_wear_12 (fun z_3 hz_3 => ?_)
    have tt_4_z_3 := tI64 (z := x2) ⟨by omega, by omega⟩
    have tt_5_z_3 := show (0 : Int64).toInt = 0 from (by decide)
    have tt_6_z_3 := show (1 : Int64).toInt = 1 from (by decide)
    rcases hz_3 with ⟨qz_3, hz_3⟩ | ⟨qz_3, hz_3⟩
    ·
      subst qz_3
      refine lv_if_ne (tgt := 24) hx hb dX12_wear_15 rfl (fun _ => ?_) (fun c => absurd c (by decide))
      refine lv_aload_n hx hb dX12_wear_24 rfl (lv_at hl 0 rfl) ?_
      refine lv_iload_n hx hb dX12_wear_25 rfl (lv_at hl 1 rfl) ?_
      refine lv_iload_n hx hb dX12_wear_26 rfl (lv_at hl 2 rfl) ?_
      refine CWV (As := [.int (iZ x1), .int (iZ x2)]) (rest := []) (wc := _) (wr := []) hx hb hml hown hts hKK hP hD hS hA (r_wears l D k ([.ref Ma, .ref Mn, .int (iZ Mst), .long Mtp, .long Mbt, .ref Ms, .ref My, .ref Mt, .ref Mp, .ref Mx, .int (iZ Mtd), .int (iZ Msz), .int (iZ Mtk), .int (iZ Mfr), .int (iZ Men), .int (iZ Mva), .int (iZ Mfk), .int (iZ Mfp), .int (iZ Mfs), .int (iZ Mse), .int (iZ Mlt), .ref Mo, .int (iZ Mdp), .int (iZ Mct), .ref Mk, .ref Ml, .ref Mb, .ref Mh, .ref Mc, .int (iZ Mdr), .int (iZ Mrs), .ref Mz, .ref Mr, .ref Mq, .int (iZ Mit), .int (iZ Mmk)]) hm Ma Af x1 x2 rfl hM) ci_X12_wears qm_X12_374 ⟨Nat.le_of_ble_eq_true rfl, Nat.le_of_ble_eq_true rfl⟩ ⟨Nat.le_of_ble_eq_true rfl, Nat.le_of_ble_eq_true rfl⟩ [0, 1] [] rfl rfl rfl rfl rfl (dj rfl) 0 rfl rfl rfl hl.1 rfl (Nat.le_of_ble_eq_true rfl) dX12_wear_27 (fun u_8 H locs hφ hP hD hS => ?_)
      obtain ⟨p_9, p_10, p_11⟩ : (M0 u_8.2.2.1) ∧ (FR u_8.2.2.1 Af) ∧ (rL u_8.2.2.1 = dsF x1 x2 (rL Af)) := hφ
      obtain ⟨m0m_12, m1m_12, m3m_12, m4m_12, m5m_12, mFm_12, mOm_12, mSm_12⟩ := id p_9
      have frm_12 := FR.z p_10
      refine W.eq (g2 := F0 m 30 ls []) rfl ?_
      refine lv_aload_n hx hb dX12_wear_30 rfl (lv_at hl 0 rfl) ?_
      refine lv_iconst (v := iZ 0) hx hb dX12_wear_31 rfl ?_
      refine CWV (As := [.int (iZ 0)]) (rest := []) (wc := _) (wr := [(Ma, .inl (k 1, 5340, .inl u_8.2.2.1))]) hx hb hml hown hts hKK hP hD hS hA (m_is0 l D k hm Ma Mn Ms My Mt Mp Mx Mo Mk Ml Mb Mh Mc Mz Mr Mq Mst Mtd Msz Mtk Mfr Men Mva Mfk Mfp Mfs Mse Mlt Mdp Mct Mdr Mrs Mit Mmk Mtp Mbt) ci_X12_is qm_X12_89 ⟨Nat.le_of_ble_eq_true rfl, Nat.le_of_ble_eq_true rfl⟩ ⟨Nat.le_of_ble_eq_true rfl, Nat.le_of_ble_eq_true rfl⟩ [0] [1] rfl rfl rfl rfl rfl (dj rfl) 0 rfl rfl rfl hl.1 rfl (Nat.le_of_ble_eq_true rfl) dX12_wear_32 (fun u_13 H locs hφ hP hD hS => ?_)
      refine W.eq (g2 := F0 m 35 ls [.int (iZ 1)]) rfl ?_
      exact EWz hx hb hr hlocks hS ((1, 0), 0, u_8.2.2.1, ()) rfl rfl ⟨(show M0 u_8.2.2.1 from p_9), (show FR u_8.2.2.1 Af from p_10), (show (((0 ≤ x1 ∧ x1 < gz Af 0) ∧ 0 ≤ x2 ∧ x2 ≤ 1) ∧ (1 : Int) = 1 ∧ (rL u_8.2.2.1) = dsF x1 x2 (rL Af)) ∨ (¬ ((0 ≤ x1 ∧ x1 < gz Af 0) ∧ 0 ≤ x2 ∧ x2 ≤ 1) ∧ (1 : Int) = 0 ∧ u_8.2.2.1 = Af) from (Or.inl ⟨by omega, rfl, p_11⟩))⟩ (hP.sub [1, 0] rfl) (hD.sub [1, 0] rfl rfl) dX12_wear_35
    ·
      subst qz_3
      refine lv_if_ne (tgt := 24) hx hb dX12_wear_15 rfl (fun c => absurd (by decide) c) (fun _ => ?_)
      refine lv_aload_n hx hb dX12_wear_18 rfl (lv_at hl 0 rfl) ?_
      refine lv_iconst (v := iZ 1) hx hb dX12_wear_19 rfl ?_
      refine CWV (As := [.int (iZ 1)]) (rest := []) (wc := _) (wr := [(Ma, .inl (k 1, 5340, .inl Af))]) hx hb hml hown hts hKK hP hD hS hA (m_isN l D k hm Ma Mn Ms My Mt Mp Mx Mo Mk Ml Mb Mh Mc Mz Mr Mq Mst Mtd Msz Mtk Mfr Men Mva Mfk Mfp Mfs Mse Mlt Mdp Mct Mdr Mrs Mit Mmk Mtp Mbt 1 ⟨by omega, by omega⟩ (by omega)) ci_X12_is qm_X12_89 ⟨Nat.le_of_ble_eq_true rfl, Nat.le_of_ble_eq_true rfl⟩ ⟨Nat.le_of_ble_eq_true rfl, Nat.le_of_ble_eq_true rfl⟩ [0] [1] rfl rfl rfl rfl rfl (dj rfl) 0 rfl rfl rfl hl.1 rfl (Nat.le_of_ble_eq_true rfl) dX12_wear_20 (fun u_15 H locs hφ hP hD hS => ?_)
      refine W.eq (g2 := F0 m 23 ls [.int (iZ 0)]) rfl ?_
      exact EWz hx hb hr hlocks hS ((0, 1), 0, Af, ()) rfl rfl ⟨(show M0 Af from hM), (show FR Af Af from (FR.rf Af)), (show (((0 ≤ x1 ∧ x1 < gz Af 0) ∧ 0 ≤ x2 ∧ x2 ≤ 1) ∧ (0 : Int) = 1 ∧ (rL Af) = dsF x1 x2 (rL Af)) ∨ (¬ ((0 ≤ x1 ∧ x1 < gz Af 0) ∧ 0 ≤ x2 ∧ x2 ≤ 1) ∧ (0 : Int) = 0 ∧ Af = Af) from (Or.inr ⟨by omega, rfl, rfl⟩))⟩ (hP.sub [1, 0] rfl) (hD.sub [1, 0] rfl rfl) dX12_wear_23
  ·
    subst qz_1
    refine lv_if_eq (tgt := 18) hx hb dX12_wear_5 rfl (fun _ => ?_) (fun c => absurd (by decide) c)
    refine lv_aload_n hx hb dX12_wear_18 rfl (lv_at hl 0 rfl) ?_
    refine lv_iconst (v := iZ 1) hx hb dX12_wear_19 rfl ?_
    refine CWV (As := [.int (iZ 1)]) (rest := []) (wc := _) (wr := [(Ma, .inl (k 1, 5340, .inl Af))]) hx hb hml hown hts hKK hP hD hS hA (m_isN l D k hm Ma Mn Ms My Mt Mp Mx Mo Mk Ml Mb Mh Mc Mz Mr Mq Mst Mtd Msz Mtk Mfr Men Mva Mfk Mfp Mfs Mse Mlt Mdp Mct Mdr Mrs Mit Mmk Mtp Mbt 1 ⟨by omega, by omega⟩ (by omega)) ci_X12_is qm_X12_89 ⟨Nat.le_of_ble_eq_true rfl, Nat.le_of_ble_eq_true rfl⟩ ⟨Nat.le_of_ble_eq_true rfl, Nat.le_of_ble_eq_true rfl⟩ [0] [1] rfl rfl rfl rfl rfl (dj rfl) 0 rfl rfl rfl hl.1 rfl (Nat.le_of_ble_eq_true rfl) dX12_wear_20 (fun u_17 H locs hφ hP hD hS => ?_)
    refine W.eq (g2 := F0 m 23 ls [.int (iZ 0)]) rfl ?_
    exact EWz hx hb hr hlocks hS ((0, 1), 0, Af, ()) rfl rfl ⟨(show M0 Af from hM), (show FR Af Af from (FR.rf Af)), (show (((0 ≤ x1 ∧ x1 < gz Af 0) ∧ 0 ≤ x2 ∧ x2 ≤ 1) ∧ (0 : Int) = 1 ∧ (rL Af) = dsF x1 x2 (rL Af)) ∨ (¬ ((0 ≤ x1 ∧ x1 < gz Af 0) ∧ 0 ≤ x2 ∧ x2 ≤ 1) ∧ (0 : Int) = 0 ∧ Af = Af) from (Or.inr ⟨by omega, rfl, rfl⟩))⟩ (hP.sub [1, 0] rfl) (hD.sub [1, 0] rfl rfl) dX12_wear_23
set_option maxHeartbeats 4000000 in
set_option maxRecDepth 100000 in
theorem r_order (l : Launch) (D : va_G) (k : Nat → ClassId) (hm : Nat) (Ma : Nat) (Mn : Nat) (Ms : Nat) (My : Nat) (Mt : Nat) (Mp : Nat) (Mx : Nat) (Mo : Nat) (Mk : Nat) (Ml : Nat) (Mb : Nat) (Mh : Nat) (Mc : Nat) (Mz : Nat) (Mr : Nat) (Mq : Nat) (Mst : Int) (Mtd : Int) (Msz : Int) (Mtk : Int) (Mfr : Int) (Men : Int) (Mva : Int) (Mfk : Int) (Mfp : Int) (Mfs : Int) (Mse : Int) (Mlt : Int) (Mdp : Int) (Mct : Int) (Mdr : Int) (Mrs : Int) (Mit : Int) (Mmk : Int) (Mtp : Int64) (Mbt : Int64) (Af : Nat → Int32) (x1 : Int) (hM : M0 Af) (h9x1 : -2147483648 ≤ x1 ∧ x1 < 2147483648) : WD (σ := ((Int × Int) × (Int64) × ((Nat → Int32)) × (Unit))) l yX12_order cX12_order 2 (some .int) 2 0 0 D k [.ref hm, .int (iZ x1)] [(hm, .inr (12, [.ref Ma, .ref Mn, .int (iZ Mst), .long Mtp, .long Mbt, .ref Ms, .ref My, .ref Mt, .ref Mp, .ref Mx, .int (iZ Mtd), .int (iZ Msz), .int (iZ Mtk), .int (iZ Mfr), .int (iZ Men), .int (iZ Mva), .int (iZ Mfk), .int (iZ Mfp), .int (iZ Mfs), .int (iZ Mse), .int (iZ Mlt), .ref Mo, .int (iZ Mdp), .int (iZ Mct), .ref Mk, .ref Ml, .ref Mb, .ref Mh, .ref Mc, .int (iZ Mdr), .int (iZ Mrs), .ref Mz, .ref Mr, .ref Mq, .int (iZ Mit), .int (iZ Mmk)])), (Ma, .inl (k 1, 5340, .inl Af))] (fun u => some (.int (iZ u.1.1))) (fun u => (M0 u.2.2.1) ∧ (FR u.2.2.1 Af) ∧ (((0 ≤ x1 ∧ x1 < gz Af 0) ∧ ((gz Af 4 < 20 ∧ u.1.1 = gz Af 4 ∧ (rL u.2.2.1) = odF x1 (rL Af)) ∨ (¬ gz Af 4 < 20 ∧ (u.1.1 : Int) = -1 ∧ u.2.2.1 = Af))) ∨ (¬ (0 ≤ x1 ∧ x1 < gz Af 0) ∧ (u.1.1 : Int) = -1 ∧ u.2.2.1 = Af))) (fun u => [(hm, .inr (12, [.ref Ma, .ref Mn, .int (iZ u.1.2), .long Mtp, .long Mbt, .ref Ms, .ref My, .ref Mt, .ref Mp, .ref Mx, .int (iZ Mtd), .int (iZ Msz), .int (iZ Mtk), .int (iZ Mfr), .int (iZ Men), .int (iZ Mva), .int (iZ Mfk), .int (iZ Mfp), .int (iZ Mfs), .int (iZ Mse), .int (iZ Mlt), .ref Mo, .int (iZ Mdp), .int (iZ Mct), .ref Mk, .ref Ml, .ref Mb, .ref Mh, .ref Mc, .int (iZ Mdr), .int (iZ Mrs), .ref Mz, .ref Mr, .ref Mq, .int (iZ Mit), .int (iZ Mmk)])), (Ma, .inl (k 1, 5340, .inl u.2.2.1))]) := by
  refine MW (by decide) (Nat.le_of_ble_eq_true rfl) (fun p e s m below meth c ls A hx hb hml hr hlocks hin hts hown hKK hP hD hS hA hl => ?_)
  have hK := hKK.1
  have hl : lv_has ls 2 [(0, .ref hm), (1, .int (iZ x1))] := hl
  obtain ⟨m0, m1, m3, m4, m5, mF, mO, mS⟩ := id hM
  refine lv_aload_n hx hb dX12_order_0 rfl (lv_at hl 0 rfl) ?_
  refine lv_iload_n hx hb dX12_order_1 rfl (lv_at hl 1 rfl) ?_
  refine CPV (As := [.int (iZ x1)]) (rest := []) hx hb hml hown hts hKK hP (m_isRock l D k ([.ref Ma, .ref Mn, .int (iZ Mst), .long Mtp, .long Mbt, .ref Ms, .ref My, .ref Mt, .ref Mp, .ref Mx, .int (iZ Mtd), .int (iZ Msz), .int (iZ Mtk), .int (iZ Mfr), .int (iZ Men), .int (iZ Mva), .int (iZ Mfk), .int (iZ Mfp), .int (iZ Mfs), .int (iZ Mse), .int (iZ Mlt), .ref Mo, .int (iZ Mdp), .int (iZ Mct), .ref Mk, .ref Ml, .ref Mb, .ref Mh, .ref Mc, .int (iZ Mdr), .int (iZ Mrs), .ref Mz, .ref Mr, .ref Mq, .int (iZ Mit), .int (iZ Mmk)]) hm Ma Af x1 rfl hM ⟨by omega, by omega⟩) ci_X12_isRock qm_X12_243 ⟨Nat.le_of_ble_eq_true rfl, Nat.le_of_ble_eq_true rfl⟩ ⟨Nat.le_of_ble_eq_true rfl, Nat.le_of_ble_eq_true rfl⟩ 0 rfl rfl rfl hl.1 rfl (Nat.le_of_ble_eq_true rfl) dX12_order_2 (fun z_1 hz_1 => ?_)
  rcases hz_1 with ⟨qz_1, hz_1⟩ | ⟨qz_1, hz_1⟩
  ·
    subst qz_1
    refine lv_if_ne (tgt := 14) hx hb dX12_order_5 rfl (fun _ => ?_) (fun c => absurd c (by decide))
    refine lv_aload_n hx hb dX12_order_14 rfl (lv_at hl 0 rfl) ?_
    refine lv_iload_n hx hb dX12_order_15 rfl (lv_at hl 1 rfl) ?_
    refine CWV (As := [.int (iZ x1)]) (rest := []) (wc := _) (wr := []) hx hb hml hown hts hKK hP hD hS hA (r_orders l D k ([.ref Ma, .ref Mn, .int (iZ Mst), .long Mtp, .long Mbt, .ref Ms, .ref My, .ref Mt, .ref Mp, .ref Mx, .int (iZ Mtd), .int (iZ Msz), .int (iZ Mtk), .int (iZ Mfr), .int (iZ Men), .int (iZ Mva), .int (iZ Mfk), .int (iZ Mfp), .int (iZ Mfs), .int (iZ Mse), .int (iZ Mlt), .ref Mo, .int (iZ Mdp), .int (iZ Mct), .ref Mk, .ref Ml, .ref Mb, .ref Mh, .ref Mc, .int (iZ Mdr), .int (iZ Mrs), .ref Mz, .ref Mr, .ref Mq, .int (iZ Mit), .int (iZ Mmk)]) hm Ma Af x1 rfl hM ⟨by omega, by omega⟩) ci_X12_orders qm_X12_321 ⟨Nat.le_of_ble_eq_true rfl, Nat.le_of_ble_eq_true rfl⟩ ⟨Nat.le_of_ble_eq_true rfl, Nat.le_of_ble_eq_true rfl⟩ [0, 1] [] rfl rfl rfl rfl rfl (dj rfl) 0 rfl rfl rfl hl.1 rfl (Nat.le_of_ble_eq_true rfl) dX12_order_16 (fun u_3 H locs hφ hP hD hS => ?_)
    obtain ⟨p_4, p_5, p_6⟩ : (M0 u_3.2.2.1) ∧ (FR u_3.2.2.1 Af) ∧ (((u_3.1 : Int) = 0 ∧ ¬ gz Af 4 < 20 ∧ u_3.2.2.1 = Af) ∨ ((u_3.1 : Int) = 1 ∧ gz Af 4 < 20 ∧ rL u_3.2.2.1 = odF x1 (rL Af))) := hφ
    obtain ⟨m0m_7, m1m_7, m3m_7, m4m_7, m5m_7, mFm_7, mOm_7, mSm_7⟩ := id p_4
    have frm_7 := FR.z p_5
    refine W.eq (g2 := F0 m 19 ls [.int (iZ u_3.1)]) rfl ?_
    rcases (show (u_3.1 = 0) ∨ (u_3.1 = 1) from (by omega)) with s_8 | s_8
    ·
      rw [s_8]
      refine lv_if_eq (tgt := 37) hx hb dX12_order_19 rfl (fun _ => ?_) (fun c => absurd (by decide) c)
      refine lv_aload_n hx hb dX12_order_37 rfl (lv_at hl 0 rfl) ?_
      refine lv_iconst (v := iZ 4) hx hb dX12_order_38 rfl ?_
      refine CWV (As := [.int (iZ 4)]) (rest := []) (wc := _) (wr := [(Ma, .inl (k 1, 5340, .inl u_3.2.2.1))]) hx hb hml hown hts hKK hP hD hS hA (m_refuse l D k hm Ma Mn Ms My Mt Mp Mx Mo Mk Ml Mb Mh Mc Mz Mr Mq Mst Mtd Msz Mtk Mfr Men Mva Mfk Mfp Mfs Mse Mlt Mdp Mct Mdr Mrs Mit Mmk Mtp Mbt 4) ci_X12_refuse qm_X12_81 ⟨Nat.le_of_ble_eq_true rfl, Nat.le_of_ble_eq_true rfl⟩ ⟨Nat.le_of_ble_eq_true rfl, Nat.le_of_ble_eq_true rfl⟩ [0] [1] rfl rfl rfl rfl rfl (dj rfl) 0 rfl rfl rfl hl.1 rfl (Nat.le_of_ble_eq_true rfl) dX12_order_39 (fun u_10 H locs hφ hP hD hS => ?_)
      refine W.eq (g2 := F0 m 42 ls [.int (iZ (-1))]) rfl ?_
      exact EWi hx hb hr hlocks hS (((-1), 4), 0, u_3.2.2.1, ()) rfl ⟨(show M0 u_3.2.2.1 from p_4), (show FR u_3.2.2.1 Af from p_5), (show ((0 ≤ x1 ∧ x1 < gz Af 0) ∧ ((gz Af 4 < 20 ∧ (-1) = gz Af 4 ∧ (rL u_3.2.2.1) = odF x1 (rL Af)) ∨ (¬ gz Af 4 < 20 ∧ ((-1) : Int) = -1 ∧ u_3.2.2.1 = Af))) ∨ (¬ (0 ≤ x1 ∧ x1 < gz Af 0) ∧ ((-1) : Int) = -1 ∧ u_3.2.2.1 = Af) from (Or.inl ⟨by omega, Or.inr (by have g9 := (p_6).resolve_right (fun z9 => by have q8 := z9.1; omega); exact ⟨g9.2.1, rfl, g9.2.2⟩)⟩))⟩ (hP.sub [1, 0] rfl) (hD.sub [1, 0] rfl rfl) dX12_order_42
    ·
      rw [s_8]
      refine lv_if_eq (tgt := 37) hx hb dX12_order_19 rfl (fun c => absurd c (by decide)) (fun _ => ?_)
      refine lv_aload_n hx hb dX12_order_22 rfl (lv_at hl 0 rfl) ?_
      refine lv_aload_n hx hb dX12_order_23 rfl (lv_at hl 0 rfl) ?_
      refine va_get (D := D) (ci := 12) (v := .ref Ma) (C := RX12) (T := TX12) (N := 36) hx hb hts iX12 hown hK hP 0 rfl rfl 0 (bl rfl) (hts _ qf_X12_7) (fun _ h => h) rfl dX12_order_24 ?_
      refine lv_iconst (v := iZ 4) hx hb dX12_order_27 rfl ?_
      refine va_iald hx hb hK hP 1 1 rfl rfl (zin (e := 4) (n := 5340) ⟨by omega, by omega⟩ (bl rfl)) dX12_order_28 ?_
      refine lv_topi (fun x_12 ex_12 => ?_)
      obtain rfl : x_12 = iZ (gz u_3.2.2.1 4) := ex_12.trans (gz_eq ⟨by omega, by omega⟩)
      have h_13 := gz_rg u_3.2.2.1 4
      refine lv_iconst (v := iZ 1) hx hb dX12_order_29 rfl ?_
      refine lv_isub hx hb dX12_order_30 ?_
      refine lv_topi (fun x_14 ex_14 => ?_)
      obtain rfl : x_14 = iZ ((gz u_3.2.2.1 4) - 1) := ex_14.trans (iZ_sub (gz u_3.2.2.1 4) 1)
      refine CWV (As := [.int (iZ ((gz u_3.2.2.1 4) - 1))]) (rest := []) (wc := _) (wr := [(Ma, .inl (k 1, 5340, .inl u_3.2.2.1))]) hx hb hml hown hts hKK hP hD hS hA (m_gives l D k hm Ma Mn Ms My Mt Mp Mx Mo Mk Ml Mb Mh Mc Mz Mr Mq Mst Mtd Msz Mtk Mfr Men Mva Mfk Mfp Mfs Mse Mlt Mdp Mct Mdr Mrs Mit Mmk Mtp Mbt ((gz u_3.2.2.1 4) - 1)) ci_X12_gives qm_X12_85 ⟨Nat.le_of_ble_eq_true rfl, Nat.le_of_ble_eq_true rfl⟩ ⟨Nat.le_of_ble_eq_true rfl, Nat.le_of_ble_eq_true rfl⟩ [0] [1] rfl rfl rfl rfl rfl (dj rfl) 0 rfl rfl rfl hl.1 rfl (Nat.le_of_ble_eq_true rfl) dX12_order_31 (fun u_15 H locs hφ hP hD hS => ?_)
      refine W.eq (g2 := F0 m 34 ls [.int (iZ ((gz u_3.2.2.1 4) - 1))]) rfl ?_
      refine lv_goto (tgt := 42) hx hb dX12_order_34 rfl ?_
      exact EWi hx hb hr hlocks hS ((((gz u_3.2.2.1 4) - 1), 0), 0, u_3.2.2.1, ()) rfl ⟨(show M0 u_3.2.2.1 from p_4), (show FR u_3.2.2.1 Af from p_5), (show ((0 ≤ x1 ∧ x1 < gz Af 0) ∧ ((gz Af 4 < 20 ∧ ((gz u_3.2.2.1 4) - 1) = gz Af 4 ∧ (rL u_3.2.2.1) = odF x1 (rL Af)) ∨ (¬ gz Af 4 < 20 ∧ (((gz u_3.2.2.1 4) - 1) : Int) = -1 ∧ u_3.2.2.1 = Af))) ∨ (¬ (0 ≤ x1 ∧ x1 < gz Af 0) ∧ (((gz u_3.2.2.1 4) - 1) : Int) = -1 ∧ u_3.2.2.1 = Af) from (Or.inl ⟨by omega, Or.inl (by have g9 := (p_6).resolve_left (fun z9 => by have q8 := z9.1; omega); have q9 : (rL u_3.2.2.1).2.1 = (odF x1 (rL Af)).2.1 := congrArg (fun x : LS_ => x.2.1) g9.2.2; have q8 : gz u_3.2.2.1 4 = gz Af 4 + 1 := q9; exact ⟨g9.2.1, by omega, g9.2.2⟩)⟩))⟩ (hP.sub [1, 0] rfl) (hD.sub [1, 0] rfl rfl) dX12_order_42
  ·
    subst qz_1
    refine lv_if_ne (tgt := 14) hx hb dX12_order_5 rfl (fun c => absurd (by decide) c) (fun _ => ?_)
    refine lv_aload_n hx hb dX12_order_8 rfl (lv_at hl 0 rfl) ?_
    refine lv_iconst (v := iZ 1) hx hb dX12_order_9 rfl ?_
    refine CWV (As := [.int (iZ 1)]) (rest := []) (wc := _) (wr := [(Ma, .inl (k 1, 5340, .inl Af))]) hx hb hml hown hts hKK hP hD hS hA (m_refuse l D k hm Ma Mn Ms My Mt Mp Mx Mo Mk Ml Mb Mh Mc Mz Mr Mq Mst Mtd Msz Mtk Mfr Men Mva Mfk Mfp Mfs Mse Mlt Mdp Mct Mdr Mrs Mit Mmk Mtp Mbt 1) ci_X12_refuse qm_X12_81 ⟨Nat.le_of_ble_eq_true rfl, Nat.le_of_ble_eq_true rfl⟩ ⟨Nat.le_of_ble_eq_true rfl, Nat.le_of_ble_eq_true rfl⟩ [0] [1] rfl rfl rfl rfl rfl (dj rfl) 0 rfl rfl rfl hl.1 rfl (Nat.le_of_ble_eq_true rfl) dX12_order_10 (fun u_17 H locs hφ hP hD hS => ?_)
    refine W.eq (g2 := F0 m 13 ls [.int (iZ (-1))]) rfl ?_
    exact EWi hx hb hr hlocks hS (((-1), 1), 0, Af, ()) rfl ⟨(show M0 Af from hM), (show FR Af Af from (FR.rf Af)), (show ((0 ≤ x1 ∧ x1 < gz Af 0) ∧ ((gz Af 4 < 20 ∧ (-1) = gz Af 4 ∧ (rL Af) = odF x1 (rL Af)) ∨ (¬ gz Af 4 < 20 ∧ ((-1) : Int) = -1 ∧ Af = Af))) ∨ (¬ (0 ≤ x1 ∧ x1 < gz Af 0) ∧ ((-1) : Int) = -1 ∧ Af = Af) from (Or.inr ⟨by omega, rfl, rfl⟩))⟩ (hP.sub [1, 0] rfl) (hD.sub [1, 0] rfl rfl) dX12_order_13
end

section
set_option maxHeartbeats 4000000 in
set_option maxRecDepth 100000 in
theorem r_live (l : Launch) (D : va_G) (k : Nat → ClassId) (hm : Nat) (Ma : Nat) (Mn : Nat) (Ms : Nat) (My : Nat) (Mt : Nat) (Mp : Nat) (Mx : Nat) (Mo : Nat) (Mk : Nat) (Ml : Nat) (Mb : Nat) (Mh : Nat) (Mc : Nat) (Mz : Nat) (Mr : Nat) (Mq : Nat) (Mst : Int) (Mtd : Int) (Msz : Int) (Mtk : Int) (Mfr : Int) (Men : Int) (Mva : Int) (Mfk : Int) (Mfp : Int) (Mfs : Int) (Mse : Int) (Mlt : Int) (Mdp : Int) (Mct : Int) (Mdr : Int) (Mrs : Int) (Mit : Int) (Mmk : Int) (Mtp : Int64) (Mbt : Int64) (Af : Nat → Int32) (Kf : Nat → Int32) (Lf : Nat → Int32) (Bf : Nat → Int32) (Hf : Nat → Int32) (Zf : Nat → Int32) (Rf : Nat → Int32) (Qf : Nat → Int32) (Pg : PR_) (x1 : Int) (hM : M0 Af) (rgH : rgI Hf 0 1000000 120) (hdr : 0 ≤ Mdr ∧ Mdr ≤ 65535) (hit : Mit = 0 ∨ Mit = 1) (hyo : gz Af 5 = -1 ∨ (yRM Af 0 Pg ∧ okR (gz Af 0) Pg)) (hzq : okZ Zf) (h9x1 : -2147483648 ≤ x1 ∧ x1 < 2147483648) : WD (σ := ((Int × Int × Int × Int × Int) × (Int64) × ((Nat → Int32) × (Nat → Int32) × (Nat → Int32) × (Nat → Int32) × (Nat → Int32) × (Nat → Int32) × (Nat → Int32) × (Nat → Int32)) × (Unit))) l yX12_live cX12_live 3 (some .int) 10 0 0 D k [.ref hm, .int (iZ x1)] [(hm, .inr (12, [.ref Ma, .ref Mn, .int (iZ Mst), .long Mtp, .long Mbt, .ref Ms, .ref My, .ref Mt, .ref Mp, .ref Mx, .int (iZ Mtd), .int (iZ Msz), .int (iZ Mtk), .int (iZ Mfr), .int (iZ Men), .int (iZ Mva), .int (iZ Mfk), .int (iZ Mfp), .int (iZ Mfs), .int (iZ Mse), .int (iZ Mlt), .ref Mo, .int (iZ Mdp), .int (iZ Mct), .ref Mk, .ref Ml, .ref Mb, .ref Mh, .ref Mc, .int (iZ Mdr), .int (iZ Mrs), .ref Mz, .ref Mr, .ref Mq, .int (iZ Mit), .int (iZ Mmk)])), (Ma, .inl (k 1, 5340, .inl Af)), (Mk, .inl (k 1, 6, .inl Kf)), (Ml, .inl (k 1, 6, .inl Lf)), (Mb, .inl (k 1, 6, .inl Bf)), (Mh, .inl (k 1, 120, .inl Hf)), (Mz, .inl (k 1, 80, .inl Zf)), (Mr, .inl (k 1, 5, .inl Rf)), (Mq, .inl (k 1, 5, .inl Qf))] (fun u => some (.int (iZ u.1.1))) (fun u => (M0 u.2.2.1.2.1) ∧ (FR u.2.2.1.2.1 Af) ∧ (0 ≤ u.1.2.2.2.1 ∧ u.1.2.2.2.1 ≤ 65535) ∧ (rgI u.2.2.1.2.2.2.2.2.1 0 1000000 120) ∧ (u.1.2.2.1 = 0 ∨ u.1.2.2.1 = 1) ∧ (okZ u.2.2.1.2.2.2.2.2.2.1) ∧ ((((0 ≤ x1 ∧ x1 ≤ 9999) ∧ ¬ gz Af 5 = -1) ∧ u.1.1 = u.1.2.2.2.2 ∧ u.1.2.2.1 = 1 ∧ (∀ j : Int, 0 ≤ j → j < 5 → gz u.2.2.1.1 j = gz u.2.2.1.2.2.2.2.2.2.2 j) ∧ (∀ j : Int, 0 ≤ j → j < 5 → 0 ≤ gz u.2.2.1.2.2.2.2.2.2.2 j ∧ gz u.2.2.1.2.2.2.2.2.2.2 j ≤ 30000) ∧ ∃ r9 : Int, isRn_ (yS (eR Af) Pg) (0, rL Af, rQ Zf, x1, 0, 0, 0, 0, 0, 0) (r9, rL u.2.2.1.2.1, rQ u.2.2.1.2.2.2.2.2.2.1, u.1.2.2.2.1, u.1.2.2.2.2, gz u.2.2.1.2.2.2.2.2.2.2 0, gz u.2.2.1.2.2.2.2.2.2.2 1, gz u.2.2.1.2.2.2.2.2.2.2 2, gz u.2.2.1.2.2.2.2.2.2.2 3, gz u.2.2.1.2.2.2.2.2.2.2 4)) ∨ (¬ ((0 ≤ x1 ∧ x1 ≤ 9999) ∧ ¬ gz Af 5 = -1) ∧ (u.1.1 : Int) = -1 ∧ u.1.2.2.1 = Mit ∧ u.2.2.1.1 = Qf ∧ u.2.2.1.2.1 = Af ∧ u.2.2.1.2.2.2.2.2.2.1 = Zf))) (fun u => [(hm, .inr (12, [.ref Ma, .ref Mn, .int (iZ u.1.2.1), .long Mtp, .long Mbt, .ref Ms, .ref My, .ref Mt, .ref Mp, .ref Mx, .int (iZ Mtd), .int (iZ Msz), .int (iZ Mtk), .int (iZ Mfr), .int (iZ Men), .int (iZ Mva), .int (iZ Mfk), .int (iZ Mfp), .int (iZ Mfs), .int (iZ Mse), .int (iZ Mlt), .ref Mo, .int (iZ Mdp), .int (iZ Mct), .ref Mk, .ref Ml, .ref Mb, .ref Mh, .ref Mc, .int (iZ u.1.2.2.2.1), .int (iZ u.1.2.2.2.2), .ref Mz, .ref Mr, .ref Mq, .int (iZ u.1.2.2.1), .int (iZ Mmk)])), (Ma, .inl (k 1, 5340, .inl u.2.2.1.2.1)), (Mk, .inl (k 1, 6, .inl u.2.2.1.2.2.1)), (Ml, .inl (k 1, 6, .inl u.2.2.1.2.2.2.1)), (Mb, .inl (k 1, 6, .inl u.2.2.1.2.2.2.2.1)), (Mh, .inl (k 1, 120, .inl u.2.2.1.2.2.2.2.2.1)), (Mz, .inl (k 1, 80, .inl u.2.2.1.2.2.2.2.2.2.1)), (Mr, .inl (k 1, 5, .inl u.2.2.1.2.2.2.2.2.2.2)), (Mq, .inl (k 1, 5, .inl u.2.2.1.1))]) := by
  refine MW (by decide) (Nat.le_of_ble_eq_true rfl) (fun p e s m below meth c ls A hx hb hml hr hlocks hin hts hown hKK hP hD hS hA hl => ?_)
  have hK := hKK.1
  have hl : lv_has ls 3 [(0, .ref hm), (1, .int (iZ x1))] := hl
  obtain ⟨m0, m1, m3, m4, m5, mF, mO, mS⟩ := id hM
  refine lv_iload_n hx hb dX12_live_0 rfl (lv_at hl 1 rfl) ?_
  refine lv_i2l (v := (iZ x1).toInt64) hx hb dX12_live_1 rfl ?_
  refine lv_lconst (v := 0) hx hb dX12_live_2 rfl ?_
  refine lv_ldc2 (own := RX12) (v := 9999) hx hb hown (hts _ qk_X12_399) dX12_live_3 ?_
  refine CPS (As := [.long ((iZ x1).toInt64), .long 0, .long 9999]) (rest := []) hx hb hml hown hts hKK (hP.sub (ws' := []) [] rfl) (m_isFrom l D k ((iZ x1).toInt64) 0 9999) ci_X12_isFrom qm_X12_295 ⟨Nat.le_of_ble_eq_true rfl, Nat.le_of_ble_eq_true rfl⟩ ⟨Nat.le_of_ble_eq_true rfl, Nat.le_of_ble_eq_true rfl⟩ rfl hl.1 rfl (Nat.le_of_ble_eq_true rfl) dX12_live_6 (fun z_1 hz_1 => ?_)
  have tt_2_z_1 := tI64 (z := x1) ⟨by omega, by omega⟩
  have tt_3_z_1 := show (0 : Int64).toInt = 0 from (by decide)
  have tt_4_z_1 := show (9999 : Int64).toInt = 9999 from (by decide)
  rcases hz_1 with ⟨qz_1, hz_1⟩ | ⟨qz_1, hz_1⟩
  ·
    subst qz_1
    refine lv_if_ne (tgt := 18) hx hb dX12_live_9 rfl (fun _ => ?_) (fun c => absurd c (by decide))
    refine lv_aload_n hx hb dX12_live_18 rfl (lv_at hl 0 rfl) ?_
    refine va_get (D := D) (ci := 12) (v := .ref Ma) (C := RX12) (T := TX12) (N := 36) hx hb hts iX12 hown hK hP 0 rfl rfl 0 (bl rfl) (hts _ qf_X12_7) (fun _ h => h) rfl dX12_live_19 ?_
    refine lv_iconst (v := iZ 5) hx hb dX12_live_22 rfl ?_
    refine va_iald hx hb hK hP 1 1 rfl rfl (zin (e := 5) (n := 5340) ⟨by omega, by omega⟩ (bl rfl)) dX12_live_23 ?_
    refine lv_topi (fun x_6 ex_6 => ?_)
    obtain rfl : x_6 = iZ (gz Af 5) := ex_6.trans (gz_eq ⟨by omega, by omega⟩)
    have h_7 := gz_rg Af 5
    refine lv_iconst (v := iZ (-1)) hx hb dX12_live_24 rfl ?_
    refine lv_icmp_ne (tgt := 35) hx hb dX12_live_25 rfl (fun c_8 => ?_) (fun c_8 => ?_)
    ·
      have c_8 := mt (zeq (x := iZ (gz Af 5)) (y := iZ (-1)) rfl rfl (gz_rg Af 5) wn_m1).mpr c_8
      refine lv_aload_n hx hb dX12_live_35 rfl (lv_at hl 0 rfl) ?_
      refine lv_iload_n hx hb dX12_live_36 rfl (lv_at hl 1 rfl) ?_
      obtain ⟨hyM, hok⟩ := hyo.resolve_left (by omega)
      refine CWV (As := [.int (iZ x1)]) (rest := []) (wc := _) (wr := [(Mq, .inl (k 1, 5, .inl Qf))]) hx hb hml hown hts hKK hP hD hS hA (r_lives l D k hm Ma Mn Ms My Mt Mp Mx Mo Mk Ml Mb Mh Mc Mz Mr Mq Mst Mtd Msz Mtk Mfr Men Mva Mfk Mfp Mfs Mse Mlt Mdp Mct Mdr Mrs Mit Mmk Mtp Mbt Af Kf Lf Bf Hf Zf Rf x1 Pg hM ⟨by omega, by omega⟩ rgH hyM hok hzq) ci_X12_lives qm_X12_401 ⟨Nat.le_of_ble_eq_true rfl, Nat.le_of_ble_eq_true rfl⟩ ⟨Nat.le_of_ble_eq_true rfl, Nat.le_of_ble_eq_true rfl⟩ [0, 1, 2, 3, 4, 5, 6, 7] [8] rfl rfl rfl rfl rfl (dj rfl) 0 rfl rfl rfl hl.1 rfl (Nat.le_of_ble_eq_true rfl) dX12_live_37 (fun u_9 H locs hφ hP hD hS => ?_)
      obtain ⟨p_10, p_11, p_12, p_13, p_14, p_15, p_16, p_17⟩ : (M0 u_9.2.2.1.1) ∧ (FR u_9.2.2.1.1 Af) ∧ (0 ≤ u_9.1.2.1 ∧ u_9.1.2.1 ≤ 65535) ∧ (rgI u_9.2.2.1.2.2.2.2.1 0 1000000 120) ∧ (0 ≤ u_9.1.2.2 ∧ u_9.1.2.2 ≤ 200) ∧ (∃ r9 : Int, isRn_ (yS (eR Af) Pg) (0, rL Af, rQ Zf, x1, 0, 0, 0, 0, 0, 0) (r9, rL u_9.2.2.1.1, rQ u_9.2.2.1.2.2.2.2.2.1, u_9.1.2.1, u_9.1.2.2, gz u_9.2.2.1.2.2.2.2.2.2 0, gz u_9.2.2.1.2.2.2.2.2.2 1, gz u_9.2.2.1.2.2.2.2.2.2 2, gz u_9.2.2.1.2.2.2.2.2.2 3, gz u_9.2.2.1.2.2.2.2.2.2 4)) ∧ (okZ u_9.2.2.1.2.2.2.2.2.1) ∧ (∀ j : Int, 0 ≤ j → j < 5 → 0 ≤ gz u_9.2.2.1.2.2.2.2.2.2 j ∧ gz u_9.2.2.1.2.2.2.2.2.2 j ≤ 30000) := hφ
      obtain ⟨m0m_18, m1m_18, m3m_18, m4m_18, m5m_18, mFm_18, mOm_18, mSm_18⟩ := id p_10
      have frm_18 := FR.z p_11
      refine W.eq (g2 := F0 m 40 ls []) rfl ?_
      refine lv_iconst (v := iZ 0) hx hb dX12_live_40 rfl ?_
      refine lv_istore_n (lv' := [(2, .int (iZ 0)), (0, .ref hm), (1, .int (iZ x1))]) hx hb dX12_live_41 rfl hl (bl rfl) rfl (fun ls hl => ?_)
      have HL42 : ∀ (fu : Nat) (v2_42 : Int) (Qfq42 : Nat → Int32) (H : Heap) (locs : List Loc) (ls : Array Slot), ((4) + 2 - v2_42) < (fu : Int) → ((0 ≤ v2_42 ∧ v2_42 ≤ (4) + 1)) → (∀ j : Int, 0 ≤ j → j < v2_42 → gz Qfq42 j = gz u_9.2.2.1.2.2.2.2.2.2 j) → va_P D vwCl [(Mq, .inl (k 1, 5, .inl Qfq42)), (hm, .inr (12, [.ref Ma, .ref Mn, .int (iZ Mst), .long Mtp, .long Mbt, .ref Ms, .ref My, .ref Mt, .ref Mp, .ref Mx, .int (iZ Mtd), .int (iZ Msz), .int (iZ Mtk), .int (iZ Mfr), .int (iZ Men), .int (iZ Mva), .int (iZ Mfk), .int (iZ Mfp), .int (iZ Mfs), .int (iZ Mse), .int (iZ Mlt), .ref Mo, .int (iZ Mdp), .int (iZ Mct), .ref Mk, .ref Ml, .ref Mb, .ref Mh, .ref Mc, .int (iZ u_9.1.2.1), .int (iZ u_9.1.2.2), .ref Mz, .ref Mr, .ref Mq, .int (iZ Mit), .int (iZ Mmk)])), (Ma, .inl (k 1, 5340, .inl u_9.2.2.1.1)), (Mk, .inl (k 1, 6, .inl u_9.2.2.1.2.1)), (Ml, .inl (k 1, 6, .inl u_9.2.2.1.2.2.1)), (Mb, .inl (k 1, 6, .inl u_9.2.2.1.2.2.2.1)), (Mh, .inl (k 1, 120, .inl u_9.2.2.1.2.2.2.2.1)), (Mz, .inl (k 1, 80, .inl u_9.2.2.1.2.2.2.2.2.1)), (Mr, .inl (k 1, 5, .inl u_9.2.2.1.2.2.2.2.2.2))] H → va_D A [(Mq, .inl (k 1, 5, .inl Qfq42)), (hm, .inr (12, [.ref Ma, .ref Mn, .int (iZ Mst), .long Mtp, .long Mbt, .ref Ms, .ref My, .ref Mt, .ref Mp, .ref Mx, .int (iZ Mtd), .int (iZ Msz), .int (iZ Mtk), .int (iZ Mfr), .int (iZ Men), .int (iZ Mva), .int (iZ Mfk), .int (iZ Mfp), .int (iZ Mfs), .int (iZ Mse), .int (iZ Mlt), .ref Mo, .int (iZ Mdp), .int (iZ Mct), .ref Mk, .ref Ml, .ref Mb, .ref Mh, .ref Mc, .int (iZ u_9.1.2.1), .int (iZ u_9.1.2.2), .ref Mz, .ref Mr, .ref Mq, .int (iZ Mit), .int (iZ Mmk)])), (Ma, .inl (k 1, 5340, .inl u_9.2.2.1.1)), (Mk, .inl (k 1, 6, .inl u_9.2.2.1.2.1)), (Ml, .inl (k 1, 6, .inl u_9.2.2.1.2.2.1)), (Mb, .inl (k 1, 6, .inl u_9.2.2.1.2.2.2.1)), (Mh, .inl (k 1, 120, .inl u_9.2.2.1.2.2.2.2.1)), (Mz, .inl (k 1, 80, .inl u_9.2.2.1.2.2.2.2.2.1)), (Mr, .inl (k 1, 5, .inl u_9.2.2.1.2.2.2.2.2.2))] → va_S A s.heap H locs → lv_has ls 3 [(2, .int (iZ v2_42)), (0, .ref hm), (1, .int (iZ x1))] → W p l e (rj 10 0 0) s m [.ref hm, .int (iZ x1)].toArray below meth c H locs 0 0 (MQ below (QW (σ := ((Int × Int × Int × Int × Int) × (Int64) × ((Nat → Int32) × (Nat → Int32) × (Nat → Int32) × (Nat → Int32) × (Nat → Int32) × (Nat → Int32) × (Nat → Int32) × (Nat → Int32)) × (Unit))) (fun u => some (.int (iZ u.1.1))) (fun u => (M0 u.2.2.1.2.1) ∧ (FR u.2.2.1.2.1 Af) ∧ (0 ≤ u.1.2.2.2.1 ∧ u.1.2.2.2.1 ≤ 65535) ∧ (rgI u.2.2.1.2.2.2.2.2.1 0 1000000 120) ∧ (u.1.2.2.1 = 0 ∨ u.1.2.2.1 = 1) ∧ (okZ u.2.2.1.2.2.2.2.2.2.1) ∧ ((((0 ≤ x1 ∧ x1 ≤ 9999) ∧ ¬ gz Af 5 = -1) ∧ u.1.1 = u.1.2.2.2.2 ∧ u.1.2.2.1 = 1 ∧ (∀ j : Int, 0 ≤ j → j < 5 → gz u.2.2.1.1 j = gz u.2.2.1.2.2.2.2.2.2.2 j) ∧ (∀ j : Int, 0 ≤ j → j < 5 → 0 ≤ gz u.2.2.1.2.2.2.2.2.2.2 j ∧ gz u.2.2.1.2.2.2.2.2.2.2 j ≤ 30000) ∧ ∃ r9 : Int, isRn_ (yS (eR Af) Pg) (0, rL Af, rQ Zf, x1, 0, 0, 0, 0, 0, 0) (r9, rL u.2.2.1.2.1, rQ u.2.2.1.2.2.2.2.2.2.1, u.1.2.2.2.1, u.1.2.2.2.2, gz u.2.2.1.2.2.2.2.2.2.2 0, gz u.2.2.1.2.2.2.2.2.2.2 1, gz u.2.2.1.2.2.2.2.2.2.2 2, gz u.2.2.1.2.2.2.2.2.2.2 3, gz u.2.2.1.2.2.2.2.2.2.2 4)) ∨ (¬ ((0 ≤ x1 ∧ x1 ≤ 9999) ∧ ¬ gz Af 5 = -1) ∧ (u.1.1 : Int) = -1 ∧ u.1.2.2.1 = Mit ∧ u.2.2.1.1 = Qf ∧ u.2.2.1.2.1 = Af ∧ u.2.2.1.2.2.2.2.2.2.1 = Zf))) (fun u => [(hm, .inr (12, [.ref Ma, .ref Mn, .int (iZ u.1.2.1), .long Mtp, .long Mbt, .ref Ms, .ref My, .ref Mt, .ref Mp, .ref Mx, .int (iZ Mtd), .int (iZ Msz), .int (iZ Mtk), .int (iZ Mfr), .int (iZ Men), .int (iZ Mva), .int (iZ Mfk), .int (iZ Mfp), .int (iZ Mfs), .int (iZ Mse), .int (iZ Mlt), .ref Mo, .int (iZ Mdp), .int (iZ Mct), .ref Mk, .ref Ml, .ref Mb, .ref Mh, .ref Mc, .int (iZ u.1.2.2.2.1), .int (iZ u.1.2.2.2.2), .ref Mz, .ref Mr, .ref Mq, .int (iZ u.1.2.2.1), .int (iZ Mmk)])), (Ma, .inl (k 1, 5340, .inl u.2.2.1.2.1)), (Mk, .inl (k 1, 6, .inl u.2.2.1.2.2.1)), (Ml, .inl (k 1, 6, .inl u.2.2.1.2.2.2.1)), (Mb, .inl (k 1, 6, .inl u.2.2.1.2.2.2.2.1)), (Mh, .inl (k 1, 120, .inl u.2.2.1.2.2.2.2.2.1)), (Mz, .inl (k 1, 80, .inl u.2.2.1.2.2.2.2.2.2.1)), (Mr, .inl (k 1, 5, .inl u.2.2.1.2.2.2.2.2.2.2)), (Mq, .inl (k 1, 5, .inl u.2.2.1.1))]) D A) [.ref hm, .int (iZ x1)].toArray s 0 0 A) (F0 m 42 ls []) := by
        intro fu
        induction fu with
        | zero => intro v2_42 Qfq42 H locs ls hμ42 hi42 hcq hP hD hS hl; exact absurd hμ42 (by omega)
        | succ fu ih42 =>
          intro v2_42 Qfq42 H locs ls hμ42 hi42 hcq hP hD hS hl
          refine lv_iload_n hx hb dX12_live_42 rfl (lv_at hl 0 rfl) ?_
          refine lv_iconst (v := iZ 5) hx hb dX12_live_43 rfl ?_
          refine lv_icmp_ge (tgt := 65) hx hb dX12_live_44 rfl (fun c_19 => ?_) (fun c_19 => ?_)
          ·
            have c_19 := (zle (x := iZ 5) (y := iZ v2_42) rfl rfl wn_5 ⟨by omega, by omega⟩).mp c_19
            refine lv_aload_n hx hb dX12_live_65 rfl (lv_at hl 1 rfl) ?_
            refine lv_iconst (v := iZ 1) hx hb dX12_live_66 rfl ?_
            refine va_put (D := D) (ci := 12) (v := .int (iZ 1)) (ty := .boolean) (C := RX12) (T := TX12) (N := 36) hx hb hts iX12 tyX12 tyX12_ok nmX12 hown hK hP hD hS 1 rfl rfl 34 (bl rfl) (hts _ qf_X12_404) (fun _ h => h) rfl (by decide +kernel) rfl rfl (Nat.le_of_ble_eq_true rfl) dX12_live_67 (fun H locs hP hD hS => ?_)
            refine lv_aload_n hx hb dX12_live_70 rfl (lv_at hl 1 rfl) ?_
            refine lv_aload_n hx hb dX12_live_71 rfl (lv_at hl 1 rfl) ?_
            refine va_get (D := D) (ci := 12) (v := .int (iZ u_9.1.2.2)) (C := RX12) (T := TX12) (N := 36) hx hb hts iX12 hown hK hP 1 rfl rfl 30 (bl rfl) (hts _ qf_X12_387) (fun _ h => h) rfl dX12_live_72 ?_
            refine CWV (As := [.int (iZ u_9.1.2.2)]) (rest := []) (wc := _) (wr := [(Mq, .inl (k 1, 5, .inl Qfq42)), (Ma, .inl (k 1, 5340, .inl u_9.2.2.1.1)), (Mk, .inl (k 1, 6, .inl u_9.2.2.1.2.1)), (Ml, .inl (k 1, 6, .inl u_9.2.2.1.2.2.1)), (Mb, .inl (k 1, 6, .inl u_9.2.2.1.2.2.2.1)), (Mh, .inl (k 1, 120, .inl u_9.2.2.1.2.2.2.2.1)), (Mz, .inl (k 1, 80, .inl u_9.2.2.1.2.2.2.2.2.1)), (Mr, .inl (k 1, 5, .inl u_9.2.2.1.2.2.2.2.2.2))]) hx hb hml hown hts hKK hP hD hS hA (m_gives l D k hm Ma Mn Ms My Mt Mp Mx Mo Mk Ml Mb Mh Mc Mz Mr Mq Mst Mtd Msz Mtk Mfr Men Mva Mfk Mfp Mfs Mse Mlt Mdp Mct u_9.1.2.1 u_9.1.2.2 1 Mmk Mtp Mbt u_9.1.2.2) ci_X12_gives qm_X12_85 ⟨Nat.le_of_ble_eq_true rfl, Nat.le_of_ble_eq_true rfl⟩ ⟨Nat.le_of_ble_eq_true rfl, Nat.le_of_ble_eq_true rfl⟩ [1] [0, 2, 3, 4, 5, 6, 7, 8] rfl rfl rfl rfl rfl (dj rfl) 0 rfl rfl rfl hl.1 rfl (Nat.le_of_ble_eq_true rfl) dX12_live_75 (fun u_20 H locs hφ hP hD hS => ?_)
            refine W.eq (g2 := F0 m 78 ls [.int (iZ u_9.1.2.2)]) rfl ?_
            exact EWi hx hb hr hlocks hS ((u_9.1.2.2, 0, 1, u_9.1.2.1, u_9.1.2.2), 0, (Qfq42, u_9.2.2.1.1, u_9.2.2.1.2.1, u_9.2.2.1.2.2.1, u_9.2.2.1.2.2.2.1, u_9.2.2.1.2.2.2.2.1, u_9.2.2.1.2.2.2.2.2.1, u_9.2.2.1.2.2.2.2.2.2), ()) rfl ⟨(show M0 u_9.2.2.1.1 from p_10), (show FR u_9.2.2.1.1 Af from p_11), (show 0 ≤ u_9.1.2.1 ∧ u_9.1.2.1 ≤ 65535 from (by omega)), (show rgI u_9.2.2.1.2.2.2.2.1 0 1000000 120 from p_13), (show 1 = 0 ∨ 1 = 1 from (by omega)), (show okZ u_9.2.2.1.2.2.2.2.2.1 from p_16), (show (((0 ≤ x1 ∧ x1 ≤ 9999) ∧ ¬ gz Af 5 = -1) ∧ u_9.1.2.2 = u_9.1.2.2 ∧ 1 = 1 ∧ (∀ j : Int, 0 ≤ j → j < 5 → gz Qfq42 j = gz u_9.2.2.1.2.2.2.2.2.2 j) ∧ (∀ j : Int, 0 ≤ j → j < 5 → 0 ≤ gz u_9.2.2.1.2.2.2.2.2.2 j ∧ gz u_9.2.2.1.2.2.2.2.2.2 j ≤ 30000) ∧ ∃ r9 : Int, isRn_ (yS (eR Af) Pg) (0, rL Af, rQ Zf, x1, 0, 0, 0, 0, 0, 0) (r9, rL u_9.2.2.1.1, rQ u_9.2.2.1.2.2.2.2.2.1, u_9.1.2.1, u_9.1.2.2, gz u_9.2.2.1.2.2.2.2.2.2 0, gz u_9.2.2.1.2.2.2.2.2.2 1, gz u_9.2.2.1.2.2.2.2.2.2 2, gz u_9.2.2.1.2.2.2.2.2.2 3, gz u_9.2.2.1.2.2.2.2.2.2 4)) ∨ (¬ ((0 ≤ x1 ∧ x1 ≤ 9999) ∧ ¬ gz Af 5 = -1) ∧ (u_9.1.2.2 : Int) = -1 ∧ 1 = Mit ∧ Qfq42 = Qf ∧ u_9.2.2.1.1 = Af ∧ u_9.2.2.1.2.2.2.2.2.1 = Zf) from (Or.inl ⟨by omega, rfl, rfl, fun j a b => hcq j a (by omega), p_17, p_15⟩))⟩ (hP.sub [8, 1, 2, 3, 4, 5, 6, 7, 0] rfl) (hD.sub [8, 1, 2, 3, 4, 5, 6, 7, 0] rfl rfl) dX12_live_78
          ·
            have c_19 := mt (zle (x := iZ 5) (y := iZ v2_42) rfl rfl wn_5 ⟨by omega, by omega⟩).mpr c_19
            refine lv_aload_n hx hb dX12_live_47 rfl (lv_at hl 1 rfl) ?_
            refine va_get (D := D) (ci := 12) (v := .ref Mq) (C := RX12) (T := TX12) (N := 36) hx hb hts iX12 hown hK hP 1 rfl rfl 33 (bl rfl) (hts _ qf_X12_68) (fun _ h => h) rfl dX12_live_48 ?_
            refine lv_iload_n hx hb dX12_live_51 rfl (lv_at hl 0 rfl) ?_
            refine lv_aload_n hx hb dX12_live_52 rfl (lv_at hl 1 rfl) ?_
            refine va_get (D := D) (ci := 12) (v := .ref Mr) (C := RX12) (T := TX12) (N := 36) hx hb hts iX12 hown hK hP 1 rfl rfl 32 (bl rfl) (hts _ qf_X12_65) (fun _ h => h) rfl dX12_live_53 ?_
            refine lv_iload_n hx hb dX12_live_56 rfl (lv_at hl 0 rfl) ?_
            refine va_iald hx hb hK hP 8 1 rfl rfl (zin (e := v2_42) (n := 5) ⟨by omega, by omega⟩ (bl rfl)) dX12_live_57 ?_
            refine lv_topi (fun x_21 ex_21 => ?_)
            obtain rfl : x_21 = iZ (gz u_9.2.2.1.2.2.2.2.2.2 v2_42) := ex_21.trans (gz_eq ⟨by omega, by omega⟩)
            have h_22 := gz_rg u_9.2.2.1.2.2.2.2.2.2 v2_42
            refine va_iast hx hb hK hP hD hS 0 1 rfl rfl (zin (e := v2_42) (n := 5) ⟨by omega, by omega⟩ (bl rfl)) dX12_live_58 (fun H locs hP hD hS => ?_)
            obtain ⟨f_23, hf_23⟩ : ∃ gg9, gg9 = upd Qfq42 (iZ v2_42).toNatClampNeg (iZ (gz u_9.2.2.1.2.2.2.2.2.2 v2_42)) := ⟨_, rfl⟩
            rw [← hf_23] at hP hD
            refine lv_iinc (v := iZ (v2_42 + 1)) (lv' := [(2, .int (iZ (v2_42 + 1))), (0, .ref hm), (1, .int (iZ x1))]) hx hb dX12_live_59 hl (k := 0) rfl (iZ_add v2_42 1) (by decide) rfl (fun ls hl => ?_)
            refine lv_goto (tgt := 42) hx hb dX12_live_62 rfl ?_
            exact ih42  (v2_42 + 1) f_23 _ _ _ (by omega) (show (0 ≤ (v2_42 + 1) ∧ (v2_42 + 1) ≤ (4) + 1) from ⟨by omega, by omega⟩) (show ∀ j : Int, 0 ≤ j → j < (v2_42 + 1) → gz f_23 j = gz u_9.2.2.1.2.2.2.2.2.2 j from (fun j a b => by rw [gz_up hf_23 ⟨by omega, by omega⟩ (gz_rg u_9.2.2.1.2.2.2.2.2.2 v2_42) a]; by_cases c : j = v2_42; rw [if_pos c, c]; rw [if_neg c]; exact hcq j a (by omega))) (hP.sub [0, 1, 2, 3, 4, 5, 6, 7, 8] rfl) (hD.sub [0, 1, 2, 3, 4, 5, 6, 7, 8] rfl rfl) hS (lv_sub hl [0, 1, 2] rfl)
      exact HL42 8 0 Qf _ _ _ (by omega) (show (0 ≤ 0 ∧ 0 ≤ (4) + 1) from ⟨by omega, by omega⟩) (show ∀ j : Int, 0 ≤ j → j < 0 → gz Qf j = gz u_9.2.2.1.2.2.2.2.2.2 j from (fun j a b => absurd a (by omega))) (hP.sub [0, 1, 2, 3, 4, 5, 6, 7, 8] rfl) (hD.sub [0, 1, 2, 3, 4, 5, 6, 7, 8] rfl rfl) hS (lv_sub hl [0, 1, 2] rfl)
    ·
      have c_8 := (zeq (x := iZ (gz Af 5)) (y := iZ (-1)) rfl rfl (gz_rg Af 5) wn_m1).mp c_8
      refine lv_aload_n hx hb dX12_live_28 rfl (lv_at hl 0 rfl) ?_
      refine lv_bipush (v := iZ 6) hx hb dX12_live_29 bip_6 ?_
      refine CWV (As := [.int (iZ 6)]) (rest := []) (wc := _) (wr := [(Ma, .inl (k 1, 5340, .inl Af)), (Mk, .inl (k 1, 6, .inl Kf)), (Ml, .inl (k 1, 6, .inl Lf)), (Mb, .inl (k 1, 6, .inl Bf)), (Mh, .inl (k 1, 120, .inl Hf)), (Mz, .inl (k 1, 80, .inl Zf)), (Mr, .inl (k 1, 5, .inl Rf)), (Mq, .inl (k 1, 5, .inl Qf))]) hx hb hml hown hts hKK hP hD hS hA (m_refuse l D k hm Ma Mn Ms My Mt Mp Mx Mo Mk Ml Mb Mh Mc Mz Mr Mq Mst Mtd Msz Mtk Mfr Men Mva Mfk Mfp Mfs Mse Mlt Mdp Mct Mdr Mrs Mit Mmk Mtp Mbt 6) ci_X12_refuse qm_X12_81 ⟨Nat.le_of_ble_eq_true rfl, Nat.le_of_ble_eq_true rfl⟩ ⟨Nat.le_of_ble_eq_true rfl, Nat.le_of_ble_eq_true rfl⟩ [0] [1, 2, 3, 4, 5, 6, 7, 8] rfl rfl rfl rfl rfl (dj rfl) 0 rfl rfl rfl hl.1 rfl (Nat.le_of_ble_eq_true rfl) dX12_live_31 (fun u_24 H locs hφ hP hD hS => ?_)
      refine W.eq (g2 := F0 m 34 ls [.int (iZ (-1))]) rfl ?_
      exact EWi hx hb hr hlocks hS (((-1), 6, Mit, Mdr, Mrs), 0, (Qf, Af, Kf, Lf, Bf, Hf, Zf, Rf), ()) rfl ⟨(show M0 Af from hM), (show FR Af Af from (FR.rf Af)), (show 0 ≤ Mdr ∧ Mdr ≤ 65535 from (by omega)), (show rgI Hf 0 1000000 120 from rgH), (show Mit = 0 ∨ Mit = 1 from (by omega)), (show okZ Zf from hzq), (show (((0 ≤ x1 ∧ x1 ≤ 9999) ∧ ¬ gz Af 5 = -1) ∧ (-1) = Mrs ∧ Mit = 1 ∧ (∀ j : Int, 0 ≤ j → j < 5 → gz Qf j = gz Rf j) ∧ (∀ j : Int, 0 ≤ j → j < 5 → 0 ≤ gz Rf j ∧ gz Rf j ≤ 30000) ∧ ∃ r9 : Int, isRn_ (yS (eR Af) Pg) (0, rL Af, rQ Zf, x1, 0, 0, 0, 0, 0, 0) (r9, rL Af, rQ Zf, Mdr, Mrs, gz Rf 0, gz Rf 1, gz Rf 2, gz Rf 3, gz Rf 4)) ∨ (¬ ((0 ≤ x1 ∧ x1 ≤ 9999) ∧ ¬ gz Af 5 = -1) ∧ ((-1) : Int) = -1 ∧ Mit = Mit ∧ Qf = Qf ∧ Af = Af ∧ Zf = Zf) from (Or.inr ⟨by omega, rfl, rfl, rfl, rfl, rfl⟩))⟩ (hP.sub [8, 0, 1, 2, 3, 4, 5, 6, 7] rfl) (hD.sub [8, 0, 1, 2, 3, 4, 5, 6, 7] rfl rfl) dX12_live_34
  ·
    subst qz_1
    refine lv_if_ne (tgt := 18) hx hb dX12_live_9 rfl (fun c => absurd (by decide) c) (fun _ => ?_)
    refine lv_aload_n hx hb dX12_live_12 rfl (lv_at hl 0 rfl) ?_
    refine lv_iconst (v := iZ 1) hx hb dX12_live_13 rfl ?_
    refine CWV (As := [.int (iZ 1)]) (rest := []) (wc := _) (wr := [(Ma, .inl (k 1, 5340, .inl Af)), (Mk, .inl (k 1, 6, .inl Kf)), (Ml, .inl (k 1, 6, .inl Lf)), (Mb, .inl (k 1, 6, .inl Bf)), (Mh, .inl (k 1, 120, .inl Hf)), (Mz, .inl (k 1, 80, .inl Zf)), (Mr, .inl (k 1, 5, .inl Rf)), (Mq, .inl (k 1, 5, .inl Qf))]) hx hb hml hown hts hKK hP hD hS hA (m_refuse l D k hm Ma Mn Ms My Mt Mp Mx Mo Mk Ml Mb Mh Mc Mz Mr Mq Mst Mtd Msz Mtk Mfr Men Mva Mfk Mfp Mfs Mse Mlt Mdp Mct Mdr Mrs Mit Mmk Mtp Mbt 1) ci_X12_refuse qm_X12_81 ⟨Nat.le_of_ble_eq_true rfl, Nat.le_of_ble_eq_true rfl⟩ ⟨Nat.le_of_ble_eq_true rfl, Nat.le_of_ble_eq_true rfl⟩ [0] [1, 2, 3, 4, 5, 6, 7, 8] rfl rfl rfl rfl rfl (dj rfl) 0 rfl rfl rfl hl.1 rfl (Nat.le_of_ble_eq_true rfl) dX12_live_14 (fun u_26 H locs hφ hP hD hS => ?_)
    refine W.eq (g2 := F0 m 17 ls [.int (iZ (-1))]) rfl ?_
    exact EWi hx hb hr hlocks hS (((-1), 1, Mit, Mdr, Mrs), 0, (Qf, Af, Kf, Lf, Bf, Hf, Zf, Rf), ()) rfl ⟨(show M0 Af from hM), (show FR Af Af from (FR.rf Af)), (show 0 ≤ Mdr ∧ Mdr ≤ 65535 from (by omega)), (show rgI Hf 0 1000000 120 from rgH), (show Mit = 0 ∨ Mit = 1 from (by omega)), (show okZ Zf from hzq), (show (((0 ≤ x1 ∧ x1 ≤ 9999) ∧ ¬ gz Af 5 = -1) ∧ (-1) = Mrs ∧ Mit = 1 ∧ (∀ j : Int, 0 ≤ j → j < 5 → gz Qf j = gz Rf j) ∧ (∀ j : Int, 0 ≤ j → j < 5 → 0 ≤ gz Rf j ∧ gz Rf j ≤ 30000) ∧ ∃ r9 : Int, isRn_ (yS (eR Af) Pg) (0, rL Af, rQ Zf, x1, 0, 0, 0, 0, 0, 0) (r9, rL Af, rQ Zf, Mdr, Mrs, gz Rf 0, gz Rf 1, gz Rf 2, gz Rf 3, gz Rf 4)) ∨ (¬ ((0 ≤ x1 ∧ x1 ≤ 9999) ∧ ¬ gz Af 5 = -1) ∧ ((-1) : Int) = -1 ∧ Mit = Mit ∧ Qf = Qf ∧ Af = Af ∧ Zf = Zf) from (Or.inr ⟨by omega, rfl, rfl, rfl, rfl, rfl⟩))⟩ (hP.sub [8, 0, 1, 2, 3, 4, 5, 6, 7] rfl) (hD.sub [8, 0, 1, 2, 3, 4, 5, 6, 7] rfl rfl) dX12_live_17
end
