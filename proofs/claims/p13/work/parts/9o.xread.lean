section
set_option maxHeartbeats 4000000 in
set_option maxRecDepth 100000 in
theorem x_readSign (l : Launch) (D : va_G) (k : Nat → ClassId) (hr1 : Nat) (tx : Nat) (kw : Nat) (tp : Int) (ln : Int) (pl : Int) (en : Int) (ki : Int) (va : Int) (ke : Int) (fk : Int) (fp : Int) (nm : Int64) (bf : Nat → Int32) (kwf : Nat → Int64) (hI1 : (0 ≤ tp ∧ tp ≤ 900) ∧ (0 ≤ ln ∧ ln ≤ 900) ∧ (0 ≤ en ∧ en ≤ ln)) (hbf : rgI bf (-128) 127 900) (he : en < ln) : WD (σ := ((Int × Int × Int × Int) × (Int64) × (Unit) × (Unit))) l yX4_readSign cX4_readSign 2 none 0 0 0 D k [.ref hr1] [(hr1, .inr (4, [.ref tx, .ref kw, .int (iZ tp), .int (iZ ln), .int (iZ pl), .int (iZ en), .int (iZ ki), .int (iZ va), .int (iZ ke), .long nm, .int (iZ fk), .int (iZ fp)])), (tx, .inl (k 0, 900, .inl bf)), (kw, .inl (k 2, 25, .inr (.inl kwf)))] (fun _ => none) (fun u => (u.1.2.1 = en + 1) ∧ (u.1.2.2.2 = gz bf en) ∧ (((u.1.2.2.1 : Int) = 3 ∧ (gz bf en = 59 ∨ gz bf en = 60 ∨ gz bf en = 62 ∨ gz bf en = 61)) ∨ ((u.1.2.2.1 : Int) = 4 ∧ ¬ (gz bf en = 59 ∨ gz bf en = 60 ∨ gz bf en = 62 ∨ gz bf en = 61))) ∧ (-128 ≤ u.1.2.2.2 ∧ u.1.2.2.2 ≤ 127)) (fun u => [(hr1, .inr (4, [.ref tx, .ref kw, .int (iZ tp), .int (iZ ln), .int (iZ pl), .int (iZ u.1.2.1), .int (iZ u.1.2.2.1), .int (iZ u.1.2.2.2), .int (iZ ke), .long nm, .int (iZ fk), .int (iZ fp)])), (tx, .inl (k 0, 900, .inl bf)), (kw, .inl (k 2, 25, .inr (.inl kwf)))]) := by
  refine MW (by decide) (Nat.le_of_ble_eq_true rfl) (fun p e s m below meth c ls A hx hb hml hr hlocks hin hts hown hKK hP hD hS hA hl => ?_)
  have hK := hKK.1
  have hl : lv_has ls 2 [(0, .ref hr1)] := hl
  refine lv_aload_n hx hb dX4_readSign_0 rfl (lv_at hl 0 rfl) ?_
  refine va_get (D := D) (ci := 4) (v := .ref tx) (C := RX4) (T := TX4) (N := 12) hx hb hts iX4 hown hK hP 0 rfl rfl 0 (bl rfl) (hts _ qf_X4_9) (fun _ h => h) rfl dX4_readSign_1 ?_
  refine lv_aload_n hx hb dX4_readSign_4 rfl (lv_at hl 0 rfl) ?_
  refine va_get (D := D) (ci := 4) (v := .int (iZ en)) (C := RX4) (T := TX4) (N := 12) hx hb hts iX4 hown hK hP 0 rfl rfl 5 (bl rfl) (hts _ qf_X4_47) (fun _ h => h) rfl dX4_readSign_5 ?_
  refine va_bald hx hb hK hP 1 0 rfl rfl (zin (e := en) (n := 900) ⟨by omega, by omega⟩ (bl rfl)) dX4_readSign_8 ?_
  refine lv_topi (fun x_1 ex_1 => ?_)
  obtain rfl : x_1 = iZ (gz bf en) := ex_1.trans (gz_eq ⟨by omega, by omega⟩)
  have h_2 := hbf en (by omega) (by omega)
  have ht_3 := tX_c (f := bf) (sz := ln) (x := en) (by omega) (fun _ => h_2)
  refine lv_istore_n (lv' := [(1, .int (iZ (gz bf en))), (0, .ref hr1)]) hx hb dX4_readSign_9 rfl hl (bl rfl) rfl (fun ls hl => ?_)
  refine lv_aload_n hx hb dX4_readSign_10 rfl (lv_at hl 1 rfl) ?_
  refine lv_iload_n hx hb dX4_readSign_11 rfl (lv_at hl 0 rfl) ?_
  refine lv_bipush (v := iZ 59) hx hb dX4_readSign_12 bip_59 ?_
  refine lv_icmp_eq (tgt := 35) hx hb dX4_readSign_14 rfl (fun c_4 => ?_) (fun c_4 => ?_)
  ·
    have c_4 := (zeq (x := iZ (gz bf en)) (y := iZ 59) rfl rfl (gz_rg bf en) wn_59).mp c_4
    refine lv_iconst (v := iZ 3) hx hb dX4_readSign_35 rfl ?_
    refine lv_goto (tgt := 40) hx hb dX4_readSign_36 rfl ?_
    refine va_put (D := D) (ci := 4) (v := .int (iZ 3)) (ty := .int) (C := RX4) (T := TX4) (N := 12) hx hb hts iX4 tyX4 tyX4_ok nmX4 hown hK hP hD hS 0 rfl rfl 6 (bl rfl) (hts _ qf_X4_68) (fun _ h => h) rfl (by decide +kernel) rfl rfl (Nat.le_of_ble_eq_true rfl) dX4_readSign_40 (fun H locs hP hD hS => ?_)
    refine lv_aload_n hx hb dX4_readSign_43 rfl (lv_at hl 1 rfl) ?_
    refine lv_iload_n hx hb dX4_readSign_44 rfl (lv_at hl 0 rfl) ?_
    refine va_put (D := D) (ci := 4) (v := .int (iZ (gz bf en))) (ty := .int) (C := RX4) (T := TX4) (N := 12) hx hb hts iX4 tyX4 tyX4_ok nmX4 hown hK hP hD hS 0 rfl rfl 7 (bl rfl) (hts _ qf_X4_65) (fun _ h => h) rfl (by decide +kernel) rfl rfl (Nat.le_of_ble_eq_true rfl) dX4_readSign_45 (fun H locs hP hD hS => ?_)
    refine lv_aload_n hx hb dX4_readSign_48 rfl (lv_at hl 1 rfl) ?_
    refine lv_dup hx hb dX4_readSign_49 rfl ?_
    refine va_get (D := D) (ci := 4) (v := .int (iZ en)) (C := RX4) (T := TX4) (N := 12) hx hb hts iX4 hown hK hP 0 rfl rfl 5 (bl rfl) (hts _ qf_X4_47) (fun _ h => h) rfl dX4_readSign_50 ?_
    refine lv_iconst (v := iZ 1) hx hb dX4_readSign_53 rfl ?_
    refine lv_iadd hx hb dX4_readSign_54 ?_
    refine lv_topi (fun x_5 ex_5 => ?_)
    obtain rfl : x_5 = iZ (en + 1) := ex_5.trans (iZ_add en 1)
    refine va_put (D := D) (ci := 4) (v := .int (iZ (en + 1))) (ty := .int) (C := RX4) (T := TX4) (N := 12) hx hb hts iX4 tyX4 tyX4_ok nmX4 hown hK hP hD hS 0 rfl rfl 5 (bl rfl) (hts _ qf_X4_47) (fun _ h => h) rfl (by decide +kernel) rfl rfl (Nat.le_of_ble_eq_true rfl) dX4_readSign_55 (fun H locs hP hD hS => ?_)
    exact EWv hx hb hr hlocks hS ((0, (en + 1), 3, (gz bf en)), 0, (), ()) rfl ⟨(show (en + 1) = en + 1 from (by omega)), (show (gz bf en) = gz bf en from (by omega)), (show ((3 : Int) = 3 ∧ (gz bf en = 59 ∨ gz bf en = 60 ∨ gz bf en = 62 ∨ gz bf en = 61)) ∨ ((3 : Int) = 4 ∧ ¬ (gz bf en = 59 ∨ gz bf en = 60 ∨ gz bf en = 62 ∨ gz bf en = 61)) from (Or.inl ⟨rfl, by omega⟩)), (show -128 ≤ (gz bf en) ∧ (gz bf en) ≤ 127 from (by omega))⟩ (hP.sub [0, 1, 2] rfl) (hD.sub [0, 1, 2] rfl rfl) dX4_readSign_58
  ·
    have c_4 := mt (zeq (x := iZ (gz bf en)) (y := iZ 59) rfl rfl (gz_rg bf en) wn_59).mpr c_4
    refine lv_iload_n hx hb dX4_readSign_17 rfl (lv_at hl 0 rfl) ?_
    refine lv_bipush (v := iZ 60) hx hb dX4_readSign_18 bip_60 ?_
    refine lv_icmp_eq (tgt := 35) hx hb dX4_readSign_20 rfl (fun c_6 => ?_) (fun c_6 => ?_)
    ·
      have c_6 := (zeq (x := iZ (gz bf en)) (y := iZ 60) rfl rfl (gz_rg bf en) wn_60).mp c_6
      refine lv_iconst (v := iZ 3) hx hb dX4_readSign_35 rfl ?_
      refine lv_goto (tgt := 40) hx hb dX4_readSign_36 rfl ?_
      refine va_put (D := D) (ci := 4) (v := .int (iZ 3)) (ty := .int) (C := RX4) (T := TX4) (N := 12) hx hb hts iX4 tyX4 tyX4_ok nmX4 hown hK hP hD hS 0 rfl rfl 6 (bl rfl) (hts _ qf_X4_68) (fun _ h => h) rfl (by decide +kernel) rfl rfl (Nat.le_of_ble_eq_true rfl) dX4_readSign_40 (fun H locs hP hD hS => ?_)
      refine lv_aload_n hx hb dX4_readSign_43 rfl (lv_at hl 1 rfl) ?_
      refine lv_iload_n hx hb dX4_readSign_44 rfl (lv_at hl 0 rfl) ?_
      refine va_put (D := D) (ci := 4) (v := .int (iZ (gz bf en))) (ty := .int) (C := RX4) (T := TX4) (N := 12) hx hb hts iX4 tyX4 tyX4_ok nmX4 hown hK hP hD hS 0 rfl rfl 7 (bl rfl) (hts _ qf_X4_65) (fun _ h => h) rfl (by decide +kernel) rfl rfl (Nat.le_of_ble_eq_true rfl) dX4_readSign_45 (fun H locs hP hD hS => ?_)
      refine lv_aload_n hx hb dX4_readSign_48 rfl (lv_at hl 1 rfl) ?_
      refine lv_dup hx hb dX4_readSign_49 rfl ?_
      refine va_get (D := D) (ci := 4) (v := .int (iZ en)) (C := RX4) (T := TX4) (N := 12) hx hb hts iX4 hown hK hP 0 rfl rfl 5 (bl rfl) (hts _ qf_X4_47) (fun _ h => h) rfl dX4_readSign_50 ?_
      refine lv_iconst (v := iZ 1) hx hb dX4_readSign_53 rfl ?_
      refine lv_iadd hx hb dX4_readSign_54 ?_
      refine lv_topi (fun x_7 ex_7 => ?_)
      obtain rfl : x_7 = iZ (en + 1) := ex_7.trans (iZ_add en 1)
      refine va_put (D := D) (ci := 4) (v := .int (iZ (en + 1))) (ty := .int) (C := RX4) (T := TX4) (N := 12) hx hb hts iX4 tyX4 tyX4_ok nmX4 hown hK hP hD hS 0 rfl rfl 5 (bl rfl) (hts _ qf_X4_47) (fun _ h => h) rfl (by decide +kernel) rfl rfl (Nat.le_of_ble_eq_true rfl) dX4_readSign_55 (fun H locs hP hD hS => ?_)
      exact EWv hx hb hr hlocks hS ((0, (en + 1), 3, (gz bf en)), 0, (), ()) rfl ⟨(show (en + 1) = en + 1 from (by omega)), (show (gz bf en) = gz bf en from (by omega)), (show ((3 : Int) = 3 ∧ (gz bf en = 59 ∨ gz bf en = 60 ∨ gz bf en = 62 ∨ gz bf en = 61)) ∨ ((3 : Int) = 4 ∧ ¬ (gz bf en = 59 ∨ gz bf en = 60 ∨ gz bf en = 62 ∨ gz bf en = 61)) from (Or.inl ⟨rfl, by omega⟩)), (show -128 ≤ (gz bf en) ∧ (gz bf en) ≤ 127 from (by omega))⟩ (hP.sub [0, 1, 2] rfl) (hD.sub [0, 1, 2] rfl rfl) dX4_readSign_58
    ·
      have c_6 := mt (zeq (x := iZ (gz bf en)) (y := iZ 60) rfl rfl (gz_rg bf en) wn_60).mpr c_6
      refine lv_iload_n hx hb dX4_readSign_23 rfl (lv_at hl 0 rfl) ?_
      refine lv_bipush (v := iZ 62) hx hb dX4_readSign_24 bip_62 ?_
      refine lv_icmp_eq (tgt := 35) hx hb dX4_readSign_26 rfl (fun c_8 => ?_) (fun c_8 => ?_)
      ·
        have c_8 := (zeq (x := iZ (gz bf en)) (y := iZ 62) rfl rfl (gz_rg bf en) wn_62).mp c_8
        refine lv_iconst (v := iZ 3) hx hb dX4_readSign_35 rfl ?_
        refine lv_goto (tgt := 40) hx hb dX4_readSign_36 rfl ?_
        refine va_put (D := D) (ci := 4) (v := .int (iZ 3)) (ty := .int) (C := RX4) (T := TX4) (N := 12) hx hb hts iX4 tyX4 tyX4_ok nmX4 hown hK hP hD hS 0 rfl rfl 6 (bl rfl) (hts _ qf_X4_68) (fun _ h => h) rfl (by decide +kernel) rfl rfl (Nat.le_of_ble_eq_true rfl) dX4_readSign_40 (fun H locs hP hD hS => ?_)
        refine lv_aload_n hx hb dX4_readSign_43 rfl (lv_at hl 1 rfl) ?_
        refine lv_iload_n hx hb dX4_readSign_44 rfl (lv_at hl 0 rfl) ?_
        refine va_put (D := D) (ci := 4) (v := .int (iZ (gz bf en))) (ty := .int) (C := RX4) (T := TX4) (N := 12) hx hb hts iX4 tyX4 tyX4_ok nmX4 hown hK hP hD hS 0 rfl rfl 7 (bl rfl) (hts _ qf_X4_65) (fun _ h => h) rfl (by decide +kernel) rfl rfl (Nat.le_of_ble_eq_true rfl) dX4_readSign_45 (fun H locs hP hD hS => ?_)
        refine lv_aload_n hx hb dX4_readSign_48 rfl (lv_at hl 1 rfl) ?_
        refine lv_dup hx hb dX4_readSign_49 rfl ?_
        refine va_get (D := D) (ci := 4) (v := .int (iZ en)) (C := RX4) (T := TX4) (N := 12) hx hb hts iX4 hown hK hP 0 rfl rfl 5 (bl rfl) (hts _ qf_X4_47) (fun _ h => h) rfl dX4_readSign_50 ?_
        refine lv_iconst (v := iZ 1) hx hb dX4_readSign_53 rfl ?_
        refine lv_iadd hx hb dX4_readSign_54 ?_
        refine lv_topi (fun x_9 ex_9 => ?_)
        obtain rfl : x_9 = iZ (en + 1) := ex_9.trans (iZ_add en 1)
        refine va_put (D := D) (ci := 4) (v := .int (iZ (en + 1))) (ty := .int) (C := RX4) (T := TX4) (N := 12) hx hb hts iX4 tyX4 tyX4_ok nmX4 hown hK hP hD hS 0 rfl rfl 5 (bl rfl) (hts _ qf_X4_47) (fun _ h => h) rfl (by decide +kernel) rfl rfl (Nat.le_of_ble_eq_true rfl) dX4_readSign_55 (fun H locs hP hD hS => ?_)
        exact EWv hx hb hr hlocks hS ((0, (en + 1), 3, (gz bf en)), 0, (), ()) rfl ⟨(show (en + 1) = en + 1 from (by omega)), (show (gz bf en) = gz bf en from (by omega)), (show ((3 : Int) = 3 ∧ (gz bf en = 59 ∨ gz bf en = 60 ∨ gz bf en = 62 ∨ gz bf en = 61)) ∨ ((3 : Int) = 4 ∧ ¬ (gz bf en = 59 ∨ gz bf en = 60 ∨ gz bf en = 62 ∨ gz bf en = 61)) from (Or.inl ⟨rfl, by omega⟩)), (show -128 ≤ (gz bf en) ∧ (gz bf en) ≤ 127 from (by omega))⟩ (hP.sub [0, 1, 2] rfl) (hD.sub [0, 1, 2] rfl rfl) dX4_readSign_58
      ·
        have c_8 := mt (zeq (x := iZ (gz bf en)) (y := iZ 62) rfl rfl (gz_rg bf en) wn_62).mpr c_8
        refine lv_iload_n hx hb dX4_readSign_29 rfl (lv_at hl 0 rfl) ?_
        refine lv_bipush (v := iZ 61) hx hb dX4_readSign_30 bip_61 ?_
        refine lv_icmp_ne (tgt := 39) hx hb dX4_readSign_32 rfl (fun c_10 => ?_) (fun c_10 => ?_)
        ·
          have c_10 := mt (zeq (x := iZ (gz bf en)) (y := iZ 61) rfl rfl (gz_rg bf en) wn_61).mpr c_10
          refine lv_iconst (v := iZ 4) hx hb dX4_readSign_39 rfl ?_
          refine va_put (D := D) (ci := 4) (v := .int (iZ 4)) (ty := .int) (C := RX4) (T := TX4) (N := 12) hx hb hts iX4 tyX4 tyX4_ok nmX4 hown hK hP hD hS 0 rfl rfl 6 (bl rfl) (hts _ qf_X4_68) (fun _ h => h) rfl (by decide +kernel) rfl rfl (Nat.le_of_ble_eq_true rfl) dX4_readSign_40 (fun H locs hP hD hS => ?_)
          refine lv_aload_n hx hb dX4_readSign_43 rfl (lv_at hl 1 rfl) ?_
          refine lv_iload_n hx hb dX4_readSign_44 rfl (lv_at hl 0 rfl) ?_
          refine va_put (D := D) (ci := 4) (v := .int (iZ (gz bf en))) (ty := .int) (C := RX4) (T := TX4) (N := 12) hx hb hts iX4 tyX4 tyX4_ok nmX4 hown hK hP hD hS 0 rfl rfl 7 (bl rfl) (hts _ qf_X4_65) (fun _ h => h) rfl (by decide +kernel) rfl rfl (Nat.le_of_ble_eq_true rfl) dX4_readSign_45 (fun H locs hP hD hS => ?_)
          refine lv_aload_n hx hb dX4_readSign_48 rfl (lv_at hl 1 rfl) ?_
          refine lv_dup hx hb dX4_readSign_49 rfl ?_
          refine va_get (D := D) (ci := 4) (v := .int (iZ en)) (C := RX4) (T := TX4) (N := 12) hx hb hts iX4 hown hK hP 0 rfl rfl 5 (bl rfl) (hts _ qf_X4_47) (fun _ h => h) rfl dX4_readSign_50 ?_
          refine lv_iconst (v := iZ 1) hx hb dX4_readSign_53 rfl ?_
          refine lv_iadd hx hb dX4_readSign_54 ?_
          refine lv_topi (fun x_11 ex_11 => ?_)
          obtain rfl : x_11 = iZ (en + 1) := ex_11.trans (iZ_add en 1)
          refine va_put (D := D) (ci := 4) (v := .int (iZ (en + 1))) (ty := .int) (C := RX4) (T := TX4) (N := 12) hx hb hts iX4 tyX4 tyX4_ok nmX4 hown hK hP hD hS 0 rfl rfl 5 (bl rfl) (hts _ qf_X4_47) (fun _ h => h) rfl (by decide +kernel) rfl rfl (Nat.le_of_ble_eq_true rfl) dX4_readSign_55 (fun H locs hP hD hS => ?_)
          exact EWv hx hb hr hlocks hS ((0, (en + 1), 4, (gz bf en)), 0, (), ()) rfl ⟨(show (en + 1) = en + 1 from (by omega)), (show (gz bf en) = gz bf en from (by omega)), (show ((4 : Int) = 3 ∧ (gz bf en = 59 ∨ gz bf en = 60 ∨ gz bf en = 62 ∨ gz bf en = 61)) ∨ ((4 : Int) = 4 ∧ ¬ (gz bf en = 59 ∨ gz bf en = 60 ∨ gz bf en = 62 ∨ gz bf en = 61)) from (Or.inr ⟨rfl, by omega⟩)), (show -128 ≤ (gz bf en) ∧ (gz bf en) ≤ 127 from (by omega))⟩ (hP.sub [0, 1, 2] rfl) (hD.sub [0, 1, 2] rfl rfl) dX4_readSign_58
        ·
          have c_10 := (zeq (x := iZ (gz bf en)) (y := iZ 61) rfl rfl (gz_rg bf en) wn_61).mp c_10
          refine lv_iconst (v := iZ 3) hx hb dX4_readSign_35 rfl ?_
          refine lv_goto (tgt := 40) hx hb dX4_readSign_36 rfl ?_
          refine va_put (D := D) (ci := 4) (v := .int (iZ 3)) (ty := .int) (C := RX4) (T := TX4) (N := 12) hx hb hts iX4 tyX4 tyX4_ok nmX4 hown hK hP hD hS 0 rfl rfl 6 (bl rfl) (hts _ qf_X4_68) (fun _ h => h) rfl (by decide +kernel) rfl rfl (Nat.le_of_ble_eq_true rfl) dX4_readSign_40 (fun H locs hP hD hS => ?_)
          refine lv_aload_n hx hb dX4_readSign_43 rfl (lv_at hl 1 rfl) ?_
          refine lv_iload_n hx hb dX4_readSign_44 rfl (lv_at hl 0 rfl) ?_
          refine va_put (D := D) (ci := 4) (v := .int (iZ (gz bf en))) (ty := .int) (C := RX4) (T := TX4) (N := 12) hx hb hts iX4 tyX4 tyX4_ok nmX4 hown hK hP hD hS 0 rfl rfl 7 (bl rfl) (hts _ qf_X4_65) (fun _ h => h) rfl (by decide +kernel) rfl rfl (Nat.le_of_ble_eq_true rfl) dX4_readSign_45 (fun H locs hP hD hS => ?_)
          refine lv_aload_n hx hb dX4_readSign_48 rfl (lv_at hl 1 rfl) ?_
          refine lv_dup hx hb dX4_readSign_49 rfl ?_
          refine va_get (D := D) (ci := 4) (v := .int (iZ en)) (C := RX4) (T := TX4) (N := 12) hx hb hts iX4 hown hK hP 0 rfl rfl 5 (bl rfl) (hts _ qf_X4_47) (fun _ h => h) rfl dX4_readSign_50 ?_
          refine lv_iconst (v := iZ 1) hx hb dX4_readSign_53 rfl ?_
          refine lv_iadd hx hb dX4_readSign_54 ?_
          refine lv_topi (fun x_12 ex_12 => ?_)
          obtain rfl : x_12 = iZ (en + 1) := ex_12.trans (iZ_add en 1)
          refine va_put (D := D) (ci := 4) (v := .int (iZ (en + 1))) (ty := .int) (C := RX4) (T := TX4) (N := 12) hx hb hts iX4 tyX4 tyX4_ok nmX4 hown hK hP hD hS 0 rfl rfl 5 (bl rfl) (hts _ qf_X4_47) (fun _ h => h) rfl (by decide +kernel) rfl rfl (Nat.le_of_ble_eq_true rfl) dX4_readSign_55 (fun H locs hP hD hS => ?_)
          exact EWv hx hb hr hlocks hS ((0, (en + 1), 3, (gz bf en)), 0, (), ()) rfl ⟨(show (en + 1) = en + 1 from (by omega)), (show (gz bf en) = gz bf en from (by omega)), (show ((3 : Int) = 3 ∧ (gz bf en = 59 ∨ gz bf en = 60 ∨ gz bf en = 62 ∨ gz bf en = 61)) ∨ ((3 : Int) = 4 ∧ ¬ (gz bf en = 59 ∨ gz bf en = 60 ∨ gz bf en = 62 ∨ gz bf en = 61)) from (Or.inl ⟨rfl, by omega⟩)), (show -128 ≤ (gz bf en) ∧ (gz bf en) ≤ 127 from (by omega))⟩ (hP.sub [0, 1, 2] rfl) (hD.sub [0, 1, 2] rfl rfl) dX4_readSign_58
set_option maxHeartbeats 4000000 in
set_option maxRecDepth 100000 in
theorem x_readNumber (l : Launch) (D : va_G) (k : Nat → ClassId) (hr1 : Nat) (tx : Nat) (kw : Nat) (tp : Int) (ln : Int) (pl : Int) (en : Int) (ki : Int) (va : Int) (ke : Int) (fk : Int) (fp : Int) (nm : Int64) (bf : Nat → Int32) (kwf : Nat → Int64) (hI1 : (0 ≤ tp ∧ tp ≤ 900) ∧ (0 ≤ ln ∧ ln ≤ 900) ∧ (0 ≤ en ∧ en ≤ ln)) (hbf : rgI bf (-128) 127 900) (hpe : pl = en) : WD (σ := ((Int × Int × Int × Int) × (Int64) × (Unit) × (Unit))) l yX4_readNumber cX4_readNumber 2 none 0 0 0 D k [.ref hr1] [(hr1, .inr (4, [.ref tx, .ref kw, .int (iZ tp), .int (iZ ln), .int (iZ pl), .int (iZ en), .int (iZ ki), .int (iZ va), .int (iZ ke), .long nm, .int (iZ fk), .int (iZ fp)])), (tx, .inl (k 0, 900, .inl bf)), (kw, .inl (k 2, 25, .inr (.inl kwf)))] (fun _ => none) (fun u => (isRn dgB (tX bf ln) en u.1.2.1) ∧ (((u.1.2.2.1 : Int) = 4 ∧ 4 < u.1.2.1 - en) ∨ ((u.1.2.2.1 : Int) = 2 ∧ u.1.2.1 - en ≤ 4)) ∧ (u.1.2.1 - en ≤ 4 → u.1.2.2.2 = xDv (tX bf ln) en (u.1.2.1 - en).toNat) ∧ (en ≤ u.1.2.1 ∧ u.1.2.1 ≤ ln) ∧ (0 ≤ u.1.2.2.2 ∧ u.1.2.2.2 ≤ 9999)) (fun u => [(hr1, .inr (4, [.ref tx, .ref kw, .int (iZ tp), .int (iZ ln), .int (iZ pl), .int (iZ u.1.2.1), .int (iZ u.1.2.2.1), .int (iZ u.1.2.2.2), .int (iZ ke), .long nm, .int (iZ fk), .int (iZ fp)])), (tx, .inl (k 0, 900, .inl bf)), (kw, .inl (k 2, 25, .inr (.inl kwf)))]) := by
  refine MW (by decide) (Nat.le_of_ble_eq_true rfl) (fun p e s m below meth c ls A hx hb hml hr hlocks hin hts hown hKK hP hD hS hA hl => ?_)
  have hK := hKK.1
  have hl : lv_has ls 2 [(0, .ref hr1)] := hl
  refine lv_iconst (v := iZ 0) hx hb dX4_readNumber_0 rfl ?_
  refine lv_istore_n (lv' := [(1, .int (iZ 0)), (0, .ref hr1)]) hx hb dX4_readNumber_1 rfl hl (bl rfl) rfl (fun ls hl => ?_)
  have HL1 : ∀ (fu : Nat) (su : Int) (en3 : Int) (H : Heap) (locs : List Loc) (ls : Array Slot), (ln + 1 - en3) < (fu : Int) → (en ≤ en3 ∧ en3 ≤ ln) → (∀ j : Int, en ≤ j → j < en3 → dgB (tX bf ln j)) → (en3 - en ≤ 4 → su = xDv (tX bf ln) en (en3 - en).toNat) → (0 ≤ su ∧ su ≤ 9999 ∧ (en3 - en ≤ 3 → su ≤ 999) ∧ (en3 - en ≤ 2 → su ≤ 99) ∧ (en3 - en ≤ 1 → su ≤ 9) ∧ (en3 - en ≤ 0 → su ≤ 0)) → va_P D vwCl [(hr1, .inr (4, [.ref tx, .ref kw, .int (iZ tp), .int (iZ ln), .int (iZ pl), .int (iZ en3), .int (iZ ki), .int (iZ va), .int (iZ ke), .long nm, .int (iZ fk), .int (iZ fp)])), (tx, .inl (k 0, 900, .inl bf)), (kw, .inl (k 2, 25, .inr (.inl kwf)))] H → va_D A [(hr1, .inr (4, [.ref tx, .ref kw, .int (iZ tp), .int (iZ ln), .int (iZ pl), .int (iZ en3), .int (iZ ki), .int (iZ va), .int (iZ ke), .long nm, .int (iZ fk), .int (iZ fp)])), (tx, .inl (k 0, 900, .inl bf)), (kw, .inl (k 2, 25, .inr (.inl kwf)))] → va_S A s.heap H locs → lv_has ls 2 [(1, .int (iZ su)), (0, .ref hr1)] → W p l e (rj 0 0 0) s m [.ref hr1].toArray below meth c H locs 0 0 (MQ below (QW (σ := ((Int × Int × Int × Int) × (Int64) × (Unit) × (Unit))) (fun _ => none) (fun u => (isRn dgB (tX bf ln) en u.1.2.1) ∧ (((u.1.2.2.1 : Int) = 4 ∧ 4 < u.1.2.1 - en) ∨ ((u.1.2.2.1 : Int) = 2 ∧ u.1.2.1 - en ≤ 4)) ∧ (u.1.2.1 - en ≤ 4 → u.1.2.2.2 = xDv (tX bf ln) en (u.1.2.1 - en).toNat) ∧ (en ≤ u.1.2.1 ∧ u.1.2.1 ≤ ln) ∧ (0 ≤ u.1.2.2.2 ∧ u.1.2.2.2 ≤ 9999)) (fun u => [(hr1, .inr (4, [.ref tx, .ref kw, .int (iZ tp), .int (iZ ln), .int (iZ pl), .int (iZ u.1.2.1), .int (iZ u.1.2.2.1), .int (iZ u.1.2.2.2), .int (iZ ke), .long nm, .int (iZ fk), .int (iZ fp)])), (tx, .inl (k 0, 900, .inl bf)), (kw, .inl (k 2, 25, .inr (.inl kwf)))]) D A) [.ref hr1].toArray s 0 0 A) (F0 m 2 ls []) := by
    intro fu
    induction fu with
    | zero => intro su en3 H locs ls hμ1 he1 hrun hsu hsb hP hD hS hl; exact absurd hμ1 (by omega)
    | succ fu ih1 =>
      intro su en3 H locs ls hμ1 he1 hrun hsu hsb hP hD hS hl
      refine lv_aload_n hx hb dX4_readNumber_2 rfl (lv_at hl 1 rfl) ?_
      refine va_get (D := D) (ci := 4) (v := .int (iZ en3)) (C := RX4) (T := TX4) (N := 12) hx hb hts iX4 hown hK hP 0 rfl rfl 5 (bl rfl) (hts _ qf_X4_47) (fun _ h => h) rfl dX4_readNumber_3 ?_
      refine lv_aload_n hx hb dX4_readNumber_6 rfl (lv_at hl 1 rfl) ?_
      refine va_get (D := D) (ci := 4) (v := .int (iZ ln)) (C := RX4) (T := TX4) (N := 12) hx hb hts iX4 hown hK hP 0 rfl rfl 3 (bl rfl) (hts _ qf_X4_45) (fun _ h => h) rfl dX4_readNumber_7 ?_
      refine lv_icmp_ge (tgt := 89) hx hb dX4_readNumber_10 rfl (fun c_1 => ?_) (fun c_1 => ?_)
      ·
        have c_1 := (zle (x := iZ ln) (y := iZ en3) rfl rfl ⟨by omega, by omega⟩ ⟨by omega, by omega⟩).mp c_1
        have hte_2 := tX_c (f := bf) (sz := ln) (x := en3) (by omega) (fun h9 => hbf _ (by omega) (by omega))
        refine lv_aload_n hx hb dX4_readNumber_89 rfl (lv_at hl 1 rfl) ?_
        refine lv_aload_n hx hb dX4_readNumber_90 rfl (lv_at hl 1 rfl) ?_
        refine va_get (D := D) (ci := 4) (v := .int (iZ en3)) (C := RX4) (T := TX4) (N := 12) hx hb hts iX4 hown hK hP 0 rfl rfl 5 (bl rfl) (hts _ qf_X4_47) (fun _ h => h) rfl dX4_readNumber_91 ?_
        refine lv_aload_n hx hb dX4_readNumber_94 rfl (lv_at hl 1 rfl) ?_
        refine va_get (D := D) (ci := 4) (v := .int (iZ pl)) (C := RX4) (T := TX4) (N := 12) hx hb hts iX4 hown hK hP 0 rfl rfl 4 (bl rfl) (hts _ qf_X4_53) (fun _ h => h) rfl dX4_readNumber_95 ?_
        refine lv_isub hx hb dX4_readNumber_98 ?_
        refine lv_topi (fun x_3 ex_3 => ?_)
        obtain rfl : x_3 = iZ (en3 - pl) := ex_3.trans (iZ_sub en3 pl)
        refine lv_iconst (v := iZ 4) hx hb dX4_readNumber_99 rfl ?_
        refine lv_icmp_le (tgt := 107) hx hb dX4_readNumber_100 rfl (fun c_4 => ?_) (fun c_4 => ?_)
        ·
          have c_4 := (zle (x := iZ (en3 - pl)) (y := iZ 4) rfl rfl ⟨by omega, by omega⟩ wn_4).mp c_4
          refine lv_iconst (v := iZ 2) hx hb dX4_readNumber_107 rfl ?_
          refine va_put (D := D) (ci := 4) (v := .int (iZ 2)) (ty := .int) (C := RX4) (T := TX4) (N := 12) hx hb hts iX4 tyX4 tyX4_ok nmX4 hown hK hP hD hS 0 rfl rfl 6 (bl rfl) (hts _ qf_X4_68) (fun _ h => h) rfl (by decide +kernel) rfl rfl (Nat.le_of_ble_eq_true rfl) dX4_readNumber_108 (fun H locs hP hD hS => ?_)
          refine lv_aload_n hx hb dX4_readNumber_111 rfl (lv_at hl 1 rfl) ?_
          refine lv_iload_n hx hb dX4_readNumber_112 rfl (lv_at hl 0 rfl) ?_
          refine va_put (D := D) (ci := 4) (v := .int (iZ su)) (ty := .int) (C := RX4) (T := TX4) (N := 12) hx hb hts iX4 tyX4 tyX4_ok nmX4 hown hK hP hD hS 0 rfl rfl 7 (bl rfl) (hts _ qf_X4_65) (fun _ h => h) rfl (by decide +kernel) rfl rfl (Nat.le_of_ble_eq_true rfl) dX4_readNumber_113 (fun H locs hP hD hS => ?_)
          exact EWv hx hb hr hlocks hS ((0, en3, 2, su), 0, (), ()) rfl ⟨(show isRn dgB (tX bf ln) en en3 from ⟨by omega, hrun, (show ¬ (48 ≤ tX bf ln en3 ∧ tX bf ln en3 ≤ 57) from (by omega))⟩), (show ((2 : Int) = 4 ∧ 4 < en3 - en) ∨ ((2 : Int) = 2 ∧ en3 - en ≤ 4) from (Or.inr ⟨rfl, by omega⟩)), (show en3 - en ≤ 4 → su = xDv (tX bf ln) en (en3 - en).toNat from hsu), (show en ≤ en3 ∧ en3 ≤ ln from (by omega)), (show 0 ≤ su ∧ su ≤ 9999 from (by omega))⟩ (hP.sub [0, 1, 2] rfl) (hD.sub [0, 1, 2] rfl rfl) dX4_readNumber_116
        ·
          have c_4 := mt (zle (x := iZ (en3 - pl)) (y := iZ 4) rfl rfl ⟨by omega, by omega⟩ wn_4).mpr c_4
          refine lv_iconst (v := iZ 4) hx hb dX4_readNumber_103 rfl ?_
          refine lv_goto (tgt := 108) hx hb dX4_readNumber_104 rfl ?_
          refine va_put (D := D) (ci := 4) (v := .int (iZ 4)) (ty := .int) (C := RX4) (T := TX4) (N := 12) hx hb hts iX4 tyX4 tyX4_ok nmX4 hown hK hP hD hS 0 rfl rfl 6 (bl rfl) (hts _ qf_X4_68) (fun _ h => h) rfl (by decide +kernel) rfl rfl (Nat.le_of_ble_eq_true rfl) dX4_readNumber_108 (fun H locs hP hD hS => ?_)
          refine lv_aload_n hx hb dX4_readNumber_111 rfl (lv_at hl 1 rfl) ?_
          refine lv_iload_n hx hb dX4_readNumber_112 rfl (lv_at hl 0 rfl) ?_
          refine va_put (D := D) (ci := 4) (v := .int (iZ su)) (ty := .int) (C := RX4) (T := TX4) (N := 12) hx hb hts iX4 tyX4 tyX4_ok nmX4 hown hK hP hD hS 0 rfl rfl 7 (bl rfl) (hts _ qf_X4_65) (fun _ h => h) rfl (by decide +kernel) rfl rfl (Nat.le_of_ble_eq_true rfl) dX4_readNumber_113 (fun H locs hP hD hS => ?_)
          exact EWv hx hb hr hlocks hS ((0, en3, 4, su), 0, (), ()) rfl ⟨(show isRn dgB (tX bf ln) en en3 from ⟨by omega, hrun, (show ¬ (48 ≤ tX bf ln en3 ∧ tX bf ln en3 ≤ 57) from (by omega))⟩), (show ((4 : Int) = 4 ∧ 4 < en3 - en) ∨ ((4 : Int) = 2 ∧ en3 - en ≤ 4) from (Or.inl ⟨rfl, by omega⟩)), (show en3 - en ≤ 4 → su = xDv (tX bf ln) en (en3 - en).toNat from hsu), (show en ≤ en3 ∧ en3 ≤ ln from (by omega)), (show 0 ≤ su ∧ su ≤ 9999 from (by omega))⟩ (hP.sub [0, 1, 2] rfl) (hD.sub [0, 1, 2] rfl rfl) dX4_readNumber_116
      ·
        have c_1 := mt (zle (x := iZ ln) (y := iZ en3) rfl rfl ⟨by omega, by omega⟩ ⟨by omega, by omega⟩).mpr c_1
        refine lv_aload_n hx hb dX4_readNumber_13 rfl (lv_at hl 1 rfl) ?_
        refine va_get (D := D) (ci := 4) (v := .ref tx) (C := RX4) (T := TX4) (N := 12) hx hb hts iX4 hown hK hP 0 rfl rfl 0 (bl rfl) (hts _ qf_X4_9) (fun _ h => h) rfl dX4_readNumber_14 ?_
        refine lv_aload_n hx hb dX4_readNumber_17 rfl (lv_at hl 1 rfl) ?_
        refine va_get (D := D) (ci := 4) (v := .int (iZ en3)) (C := RX4) (T := TX4) (N := 12) hx hb hts iX4 hown hK hP 0 rfl rfl 5 (bl rfl) (hts _ qf_X4_47) (fun _ h => h) rfl dX4_readNumber_18 ?_
        refine va_bald hx hb hK hP 1 0 rfl rfl (zin (e := en3) (n := 900) ⟨by omega, by omega⟩ (bl rfl)) dX4_readNumber_21 ?_
        refine lv_topi (fun x_5 ex_5 => ?_)
        obtain rfl : x_5 = iZ (gz bf en3) := ex_5.trans (gz_eq ⟨by omega, by omega⟩)
        have h_6 := hbf en3 (by omega) (by omega)
        have ht_7 := tX_c (f := bf) (sz := ln) (x := en3) (by omega) (fun _ => h_6)
        refine lv_bipush (v := iZ 48) hx hb dX4_readNumber_22 bip_48 ?_
        refine lv_icmp_lt (tgt := 89) hx hb dX4_readNumber_24 rfl (fun c_8 => ?_) (fun c_8 => ?_)
        ·
          have c_8 := (zlt (x := iZ (gz bf en3)) (y := iZ 48) rfl rfl (gz_rg bf en3) wn_48).mp c_8
          have hte_9 := tX_c (f := bf) (sz := ln) (x := en3) (by omega) (fun h9 => hbf _ (by omega) (by omega))
          refine lv_aload_n hx hb dX4_readNumber_89 rfl (lv_at hl 1 rfl) ?_
          refine lv_aload_n hx hb dX4_readNumber_90 rfl (lv_at hl 1 rfl) ?_
          refine va_get (D := D) (ci := 4) (v := .int (iZ en3)) (C := RX4) (T := TX4) (N := 12) hx hb hts iX4 hown hK hP 0 rfl rfl 5 (bl rfl) (hts _ qf_X4_47) (fun _ h => h) rfl dX4_readNumber_91 ?_
          refine lv_aload_n hx hb dX4_readNumber_94 rfl (lv_at hl 1 rfl) ?_
          refine va_get (D := D) (ci := 4) (v := .int (iZ pl)) (C := RX4) (T := TX4) (N := 12) hx hb hts iX4 hown hK hP 0 rfl rfl 4 (bl rfl) (hts _ qf_X4_53) (fun _ h => h) rfl dX4_readNumber_95 ?_
          refine lv_isub hx hb dX4_readNumber_98 ?_
          refine lv_topi (fun x_10 ex_10 => ?_)
          obtain rfl : x_10 = iZ (en3 - pl) := ex_10.trans (iZ_sub en3 pl)
          refine lv_iconst (v := iZ 4) hx hb dX4_readNumber_99 rfl ?_
          refine lv_icmp_le (tgt := 107) hx hb dX4_readNumber_100 rfl (fun c_11 => ?_) (fun c_11 => ?_)
          ·
            have c_11 := (zle (x := iZ (en3 - pl)) (y := iZ 4) rfl rfl ⟨by omega, by omega⟩ wn_4).mp c_11
            refine lv_iconst (v := iZ 2) hx hb dX4_readNumber_107 rfl ?_
            refine va_put (D := D) (ci := 4) (v := .int (iZ 2)) (ty := .int) (C := RX4) (T := TX4) (N := 12) hx hb hts iX4 tyX4 tyX4_ok nmX4 hown hK hP hD hS 0 rfl rfl 6 (bl rfl) (hts _ qf_X4_68) (fun _ h => h) rfl (by decide +kernel) rfl rfl (Nat.le_of_ble_eq_true rfl) dX4_readNumber_108 (fun H locs hP hD hS => ?_)
            refine lv_aload_n hx hb dX4_readNumber_111 rfl (lv_at hl 1 rfl) ?_
            refine lv_iload_n hx hb dX4_readNumber_112 rfl (lv_at hl 0 rfl) ?_
            refine va_put (D := D) (ci := 4) (v := .int (iZ su)) (ty := .int) (C := RX4) (T := TX4) (N := 12) hx hb hts iX4 tyX4 tyX4_ok nmX4 hown hK hP hD hS 0 rfl rfl 7 (bl rfl) (hts _ qf_X4_65) (fun _ h => h) rfl (by decide +kernel) rfl rfl (Nat.le_of_ble_eq_true rfl) dX4_readNumber_113 (fun H locs hP hD hS => ?_)
            exact EWv hx hb hr hlocks hS ((0, en3, 2, su), 0, (), ()) rfl ⟨(show isRn dgB (tX bf ln) en en3 from ⟨by omega, hrun, (show ¬ (48 ≤ tX bf ln en3 ∧ tX bf ln en3 ≤ 57) from (by omega))⟩), (show ((2 : Int) = 4 ∧ 4 < en3 - en) ∨ ((2 : Int) = 2 ∧ en3 - en ≤ 4) from (Or.inr ⟨rfl, by omega⟩)), (show en3 - en ≤ 4 → su = xDv (tX bf ln) en (en3 - en).toNat from hsu), (show en ≤ en3 ∧ en3 ≤ ln from (by omega)), (show 0 ≤ su ∧ su ≤ 9999 from (by omega))⟩ (hP.sub [0, 1, 2] rfl) (hD.sub [0, 1, 2] rfl rfl) dX4_readNumber_116
          ·
            have c_11 := mt (zle (x := iZ (en3 - pl)) (y := iZ 4) rfl rfl ⟨by omega, by omega⟩ wn_4).mpr c_11
            refine lv_iconst (v := iZ 4) hx hb dX4_readNumber_103 rfl ?_
            refine lv_goto (tgt := 108) hx hb dX4_readNumber_104 rfl ?_
            refine va_put (D := D) (ci := 4) (v := .int (iZ 4)) (ty := .int) (C := RX4) (T := TX4) (N := 12) hx hb hts iX4 tyX4 tyX4_ok nmX4 hown hK hP hD hS 0 rfl rfl 6 (bl rfl) (hts _ qf_X4_68) (fun _ h => h) rfl (by decide +kernel) rfl rfl (Nat.le_of_ble_eq_true rfl) dX4_readNumber_108 (fun H locs hP hD hS => ?_)
            refine lv_aload_n hx hb dX4_readNumber_111 rfl (lv_at hl 1 rfl) ?_
            refine lv_iload_n hx hb dX4_readNumber_112 rfl (lv_at hl 0 rfl) ?_
            refine va_put (D := D) (ci := 4) (v := .int (iZ su)) (ty := .int) (C := RX4) (T := TX4) (N := 12) hx hb hts iX4 tyX4 tyX4_ok nmX4 hown hK hP hD hS 0 rfl rfl 7 (bl rfl) (hts _ qf_X4_65) (fun _ h => h) rfl (by decide +kernel) rfl rfl (Nat.le_of_ble_eq_true rfl) dX4_readNumber_113 (fun H locs hP hD hS => ?_)
            exact EWv hx hb hr hlocks hS ((0, en3, 4, su), 0, (), ()) rfl ⟨(show isRn dgB (tX bf ln) en en3 from ⟨by omega, hrun, (show ¬ (48 ≤ tX bf ln en3 ∧ tX bf ln en3 ≤ 57) from (by omega))⟩), (show ((4 : Int) = 4 ∧ 4 < en3 - en) ∨ ((4 : Int) = 2 ∧ en3 - en ≤ 4) from (Or.inl ⟨rfl, by omega⟩)), (show en3 - en ≤ 4 → su = xDv (tX bf ln) en (en3 - en).toNat from hsu), (show en ≤ en3 ∧ en3 ≤ ln from (by omega)), (show 0 ≤ su ∧ su ≤ 9999 from (by omega))⟩ (hP.sub [0, 1, 2] rfl) (hD.sub [0, 1, 2] rfl rfl) dX4_readNumber_116
        ·
          have c_8 := mt (zlt (x := iZ (gz bf en3)) (y := iZ 48) rfl rfl (gz_rg bf en3) wn_48).mpr c_8
          refine lv_aload_n hx hb dX4_readNumber_27 rfl (lv_at hl 1 rfl) ?_
          refine va_get (D := D) (ci := 4) (v := .ref tx) (C := RX4) (T := TX4) (N := 12) hx hb hts iX4 hown hK hP 0 rfl rfl 0 (bl rfl) (hts _ qf_X4_9) (fun _ h => h) rfl dX4_readNumber_28 ?_
          refine lv_aload_n hx hb dX4_readNumber_31 rfl (lv_at hl 1 rfl) ?_
          refine va_get (D := D) (ci := 4) (v := .int (iZ en3)) (C := RX4) (T := TX4) (N := 12) hx hb hts iX4 hown hK hP 0 rfl rfl 5 (bl rfl) (hts _ qf_X4_47) (fun _ h => h) rfl dX4_readNumber_32 ?_
          refine va_bald hx hb hK hP 1 0 rfl rfl (zin (e := en3) (n := 900) ⟨by omega, by omega⟩ (bl rfl)) dX4_readNumber_35 ?_
          refine lv_topi (fun x_12 ex_12 => ?_)
          obtain rfl : x_12 = iZ (gz bf en3) := ex_12.trans (gz_eq ⟨by omega, by omega⟩)
          have h_13 := hbf en3 (by omega) (by omega)
          have ht_14 := tX_c (f := bf) (sz := ln) (x := en3) (by omega) (fun _ => h_13)
          refine lv_bipush (v := iZ 57) hx hb dX4_readNumber_36 bip_57 ?_
          refine lv_icmp_gt (tgt := 89) hx hb dX4_readNumber_38 rfl (fun c_15 => ?_) (fun c_15 => ?_)
          ·
            have c_15 := (zlt (x := iZ 57) (y := iZ (gz bf en3)) rfl rfl wn_57 (gz_rg bf en3)).mp c_15
            have hte_16 := tX_c (f := bf) (sz := ln) (x := en3) (by omega) (fun h9 => hbf _ (by omega) (by omega))
            refine lv_aload_n hx hb dX4_readNumber_89 rfl (lv_at hl 1 rfl) ?_
            refine lv_aload_n hx hb dX4_readNumber_90 rfl (lv_at hl 1 rfl) ?_
            refine va_get (D := D) (ci := 4) (v := .int (iZ en3)) (C := RX4) (T := TX4) (N := 12) hx hb hts iX4 hown hK hP 0 rfl rfl 5 (bl rfl) (hts _ qf_X4_47) (fun _ h => h) rfl dX4_readNumber_91 ?_
            refine lv_aload_n hx hb dX4_readNumber_94 rfl (lv_at hl 1 rfl) ?_
            refine va_get (D := D) (ci := 4) (v := .int (iZ pl)) (C := RX4) (T := TX4) (N := 12) hx hb hts iX4 hown hK hP 0 rfl rfl 4 (bl rfl) (hts _ qf_X4_53) (fun _ h => h) rfl dX4_readNumber_95 ?_
            refine lv_isub hx hb dX4_readNumber_98 ?_
            refine lv_topi (fun x_17 ex_17 => ?_)
            obtain rfl : x_17 = iZ (en3 - pl) := ex_17.trans (iZ_sub en3 pl)
            refine lv_iconst (v := iZ 4) hx hb dX4_readNumber_99 rfl ?_
            refine lv_icmp_le (tgt := 107) hx hb dX4_readNumber_100 rfl (fun c_18 => ?_) (fun c_18 => ?_)
            ·
              have c_18 := (zle (x := iZ (en3 - pl)) (y := iZ 4) rfl rfl ⟨by omega, by omega⟩ wn_4).mp c_18
              refine lv_iconst (v := iZ 2) hx hb dX4_readNumber_107 rfl ?_
              refine va_put (D := D) (ci := 4) (v := .int (iZ 2)) (ty := .int) (C := RX4) (T := TX4) (N := 12) hx hb hts iX4 tyX4 tyX4_ok nmX4 hown hK hP hD hS 0 rfl rfl 6 (bl rfl) (hts _ qf_X4_68) (fun _ h => h) rfl (by decide +kernel) rfl rfl (Nat.le_of_ble_eq_true rfl) dX4_readNumber_108 (fun H locs hP hD hS => ?_)
              refine lv_aload_n hx hb dX4_readNumber_111 rfl (lv_at hl 1 rfl) ?_
              refine lv_iload_n hx hb dX4_readNumber_112 rfl (lv_at hl 0 rfl) ?_
              refine va_put (D := D) (ci := 4) (v := .int (iZ su)) (ty := .int) (C := RX4) (T := TX4) (N := 12) hx hb hts iX4 tyX4 tyX4_ok nmX4 hown hK hP hD hS 0 rfl rfl 7 (bl rfl) (hts _ qf_X4_65) (fun _ h => h) rfl (by decide +kernel) rfl rfl (Nat.le_of_ble_eq_true rfl) dX4_readNumber_113 (fun H locs hP hD hS => ?_)
              exact EWv hx hb hr hlocks hS ((0, en3, 2, su), 0, (), ()) rfl ⟨(show isRn dgB (tX bf ln) en en3 from ⟨by omega, hrun, (show ¬ (48 ≤ tX bf ln en3 ∧ tX bf ln en3 ≤ 57) from (by omega))⟩), (show ((2 : Int) = 4 ∧ 4 < en3 - en) ∨ ((2 : Int) = 2 ∧ en3 - en ≤ 4) from (Or.inr ⟨rfl, by omega⟩)), (show en3 - en ≤ 4 → su = xDv (tX bf ln) en (en3 - en).toNat from hsu), (show en ≤ en3 ∧ en3 ≤ ln from (by omega)), (show 0 ≤ su ∧ su ≤ 9999 from (by omega))⟩ (hP.sub [0, 1, 2] rfl) (hD.sub [0, 1, 2] rfl rfl) dX4_readNumber_116
            ·
              have c_18 := mt (zle (x := iZ (en3 - pl)) (y := iZ 4) rfl rfl ⟨by omega, by omega⟩ wn_4).mpr c_18
              refine lv_iconst (v := iZ 4) hx hb dX4_readNumber_103 rfl ?_
              refine lv_goto (tgt := 108) hx hb dX4_readNumber_104 rfl ?_
              refine va_put (D := D) (ci := 4) (v := .int (iZ 4)) (ty := .int) (C := RX4) (T := TX4) (N := 12) hx hb hts iX4 tyX4 tyX4_ok nmX4 hown hK hP hD hS 0 rfl rfl 6 (bl rfl) (hts _ qf_X4_68) (fun _ h => h) rfl (by decide +kernel) rfl rfl (Nat.le_of_ble_eq_true rfl) dX4_readNumber_108 (fun H locs hP hD hS => ?_)
              refine lv_aload_n hx hb dX4_readNumber_111 rfl (lv_at hl 1 rfl) ?_
              refine lv_iload_n hx hb dX4_readNumber_112 rfl (lv_at hl 0 rfl) ?_
              refine va_put (D := D) (ci := 4) (v := .int (iZ su)) (ty := .int) (C := RX4) (T := TX4) (N := 12) hx hb hts iX4 tyX4 tyX4_ok nmX4 hown hK hP hD hS 0 rfl rfl 7 (bl rfl) (hts _ qf_X4_65) (fun _ h => h) rfl (by decide +kernel) rfl rfl (Nat.le_of_ble_eq_true rfl) dX4_readNumber_113 (fun H locs hP hD hS => ?_)
              exact EWv hx hb hr hlocks hS ((0, en3, 4, su), 0, (), ()) rfl ⟨(show isRn dgB (tX bf ln) en en3 from ⟨by omega, hrun, (show ¬ (48 ≤ tX bf ln en3 ∧ tX bf ln en3 ≤ 57) from (by omega))⟩), (show ((4 : Int) = 4 ∧ 4 < en3 - en) ∨ ((4 : Int) = 2 ∧ en3 - en ≤ 4) from (Or.inl ⟨rfl, by omega⟩)), (show en3 - en ≤ 4 → su = xDv (tX bf ln) en (en3 - en).toNat from hsu), (show en ≤ en3 ∧ en3 ≤ ln from (by omega)), (show 0 ≤ su ∧ su ≤ 9999 from (by omega))⟩ (hP.sub [0, 1, 2] rfl) (hD.sub [0, 1, 2] rfl rfl) dX4_readNumber_116
          ·
            have c_15 := mt (zlt (x := iZ 57) (y := iZ (gz bf en3)) rfl rfl wn_57 (gz_rg bf en3)).mpr c_15
            refine lv_aload_n hx hb dX4_readNumber_41 rfl (lv_at hl 1 rfl) ?_
            refine va_get (D := D) (ci := 4) (v := .int (iZ en3)) (C := RX4) (T := TX4) (N := 12) hx hb hts iX4 hown hK hP 0 rfl rfl 5 (bl rfl) (hts _ qf_X4_47) (fun _ h => h) rfl dX4_readNumber_42 ?_
            refine lv_aload_n hx hb dX4_readNumber_45 rfl (lv_at hl 1 rfl) ?_
            refine va_get (D := D) (ci := 4) (v := .int (iZ pl)) (C := RX4) (T := TX4) (N := 12) hx hb hts iX4 hown hK hP 0 rfl rfl 4 (bl rfl) (hts _ qf_X4_53) (fun _ h => h) rfl dX4_readNumber_46 ?_
            refine lv_isub hx hb dX4_readNumber_49 ?_
            refine lv_topi (fun x_19 ex_19 => ?_)
            obtain rfl : x_19 = iZ (en3 - pl) := ex_19.trans (iZ_sub en3 pl)
            refine lv_iconst (v := iZ 4) hx hb dX4_readNumber_50 rfl ?_
            refine lv_icmp_ge (tgt := 74) hx hb dX4_readNumber_51 rfl (fun c_20 => ?_) (fun c_20 => ?_)
            ·
              have c_20 := (zle (x := iZ 4) (y := iZ (en3 - pl)) rfl rfl wn_4 ⟨by omega, by omega⟩).mp c_20
              refine lv_iload_n hx hb dX4_readNumber_74 rfl (lv_at hl 0 rfl) ?_
              refine lv_istore_n (lv' := [(1, .int (iZ su)), (0, .ref hr1)]) hx hb dX4_readNumber_75 rfl hl (bl rfl) rfl (fun ls hl => ?_)
              refine lv_aload_n hx hb dX4_readNumber_76 rfl (lv_at hl 1 rfl) ?_
              refine lv_dup hx hb dX4_readNumber_77 rfl ?_
              refine va_get (D := D) (ci := 4) (v := .int (iZ en3)) (C := RX4) (T := TX4) (N := 12) hx hb hts iX4 hown hK hP 0 rfl rfl 5 (bl rfl) (hts _ qf_X4_47) (fun _ h => h) rfl dX4_readNumber_78 ?_
              refine lv_iconst (v := iZ 1) hx hb dX4_readNumber_81 rfl ?_
              refine lv_iadd hx hb dX4_readNumber_82 ?_
              refine lv_topi (fun x_21 ex_21 => ?_)
              obtain rfl : x_21 = iZ (en3 + 1) := ex_21.trans (iZ_add en3 1)
              refine va_put (D := D) (ci := 4) (v := .int (iZ (en3 + 1))) (ty := .int) (C := RX4) (T := TX4) (N := 12) hx hb hts iX4 tyX4 tyX4_ok nmX4 hown hK hP hD hS 0 rfl rfl 5 (bl rfl) (hts _ qf_X4_47) (fun _ h => h) rfl (by decide +kernel) rfl rfl (Nat.le_of_ble_eq_true rfl) dX4_readNumber_83 (fun H locs hP hD hS => ?_)
              refine lv_goto (tgt := 2) hx hb dX4_readNumber_86 rfl ?_
              exact ih1  su (en3 + 1) _ _ _ (by omega) (show en ≤ (en3 + 1) ∧ (en3 + 1) ≤ ln from ⟨by omega, by omega⟩) (show ∀ j : Int, en ≤ j → j < (en3 + 1) → dgB (tX bf ln j) from (rn_step hrun (show 48 ≤ tX bf ln en3 ∧ tX bf ln en3 ≤ 57 from (by omega)))) (show (en3 + 1) - en ≤ 4 → su = xDv (tX bf ln) en ((en3 + 1) - en).toNat from (fun h9 => absurd h9 (by omega))) (show 0 ≤ su ∧ su ≤ 9999 ∧ ((en3 + 1) - en ≤ 3 → su ≤ 999) ∧ ((en3 + 1) - en ≤ 2 → su ≤ 99) ∧ ((en3 + 1) - en ≤ 1 → su ≤ 9) ∧ ((en3 + 1) - en ≤ 0 → su ≤ 0) from ⟨by omega, by omega, fun _ => by omega, fun _ => by omega, fun _ => by omega, fun _ => by omega⟩) (hP.sub [0, 1, 2] rfl) (hD.sub [0, 1, 2] rfl rfl) hS (lv_sub hl [0, 1] rfl)
            ·
              have c_20 := mt (zle (x := iZ 4) (y := iZ (en3 - pl)) rfl rfl wn_4 ⟨by omega, by omega⟩).mpr c_20
              refine lv_iload_n hx hb dX4_readNumber_54 rfl (lv_at hl 0 rfl) ?_
              refine lv_bipush (v := iZ 10) hx hb dX4_readNumber_55 bip_10 ?_
              refine lv_imul hx hb dX4_readNumber_57 ?_
              refine lv_topi (fun x_22 ex_22 => ?_)
              obtain rfl : x_22 = iZ (su * 10) := ex_22.trans (iZ_mul su 10)
              refine lv_aload_n hx hb dX4_readNumber_58 rfl (lv_at hl 1 rfl) ?_
              refine va_get (D := D) (ci := 4) (v := .ref tx) (C := RX4) (T := TX4) (N := 12) hx hb hts iX4 hown hK hP 0 rfl rfl 0 (bl rfl) (hts _ qf_X4_9) (fun _ h => h) rfl dX4_readNumber_59 ?_
              refine lv_aload_n hx hb dX4_readNumber_62 rfl (lv_at hl 1 rfl) ?_
              refine va_get (D := D) (ci := 4) (v := .int (iZ en3)) (C := RX4) (T := TX4) (N := 12) hx hb hts iX4 hown hK hP 0 rfl rfl 5 (bl rfl) (hts _ qf_X4_47) (fun _ h => h) rfl dX4_readNumber_63 ?_
              refine va_bald hx hb hK hP 1 0 rfl rfl (zin (e := en3) (n := 900) ⟨by omega, by omega⟩ (bl rfl)) dX4_readNumber_66 ?_
              refine lv_topi (fun x_23 ex_23 => ?_)
              obtain rfl : x_23 = iZ (gz bf en3) := ex_23.trans (gz_eq ⟨by omega, by omega⟩)
              have h_24 := hbf en3 (by omega) (by omega)
              have ht_25 := tX_c (f := bf) (sz := ln) (x := en3) (by omega) (fun _ => h_24)
              refine lv_iadd hx hb dX4_readNumber_67 ?_
              refine lv_topi (fun x_26 ex_26 => ?_)
              obtain rfl : x_26 = iZ ((su * 10) + (gz bf en3)) := ex_26.trans (iZ_add (su * 10) (gz bf en3))
              refine lv_bipush (v := iZ 48) hx hb dX4_readNumber_68 bip_48 ?_
              refine lv_isub hx hb dX4_readNumber_70 ?_
              refine lv_topi (fun x_27 ex_27 => ?_)
              obtain rfl : x_27 = iZ (((su * 10) + (gz bf en3)) - 48) := ex_27.trans (iZ_sub ((su * 10) + (gz bf en3)) 48)
              refine lv_goto (tgt := 75) hx hb dX4_readNumber_71 rfl ?_
              refine lv_istore_n (lv' := [(1, .int (iZ (((su * 10) + (gz bf en3)) - 48))), (0, .ref hr1)]) hx hb dX4_readNumber_75 rfl hl (bl rfl) rfl (fun ls hl => ?_)
              refine lv_aload_n hx hb dX4_readNumber_76 rfl (lv_at hl 1 rfl) ?_
              refine lv_dup hx hb dX4_readNumber_77 rfl ?_
              refine va_get (D := D) (ci := 4) (v := .int (iZ en3)) (C := RX4) (T := TX4) (N := 12) hx hb hts iX4 hown hK hP 0 rfl rfl 5 (bl rfl) (hts _ qf_X4_47) (fun _ h => h) rfl dX4_readNumber_78 ?_
              refine lv_iconst (v := iZ 1) hx hb dX4_readNumber_81 rfl ?_
              refine lv_iadd hx hb dX4_readNumber_82 ?_
              refine lv_topi (fun x_28 ex_28 => ?_)
              obtain rfl : x_28 = iZ (en3 + 1) := ex_28.trans (iZ_add en3 1)
              refine va_put (D := D) (ci := 4) (v := .int (iZ (en3 + 1))) (ty := .int) (C := RX4) (T := TX4) (N := 12) hx hb hts iX4 tyX4 tyX4_ok nmX4 hown hK hP hD hS 0 rfl rfl 5 (bl rfl) (hts _ qf_X4_47) (fun _ h => h) rfl (by decide +kernel) rfl rfl (Nat.le_of_ble_eq_true rfl) dX4_readNumber_83 (fun H locs hP hD hS => ?_)
              refine lv_goto (tgt := 2) hx hb dX4_readNumber_86 rfl ?_
              exact ih1  (((su * 10) + (gz bf en3)) - 48) (en3 + 1) _ _ _ (by omega) (show en ≤ (en3 + 1) ∧ (en3 + 1) ≤ ln from ⟨by omega, by omega⟩) (show ∀ j : Int, en ≤ j → j < (en3 + 1) → dgB (tX bf ln j) from (rn_step hrun (show 48 ≤ tX bf ln en3 ∧ tX bf ln en3 ≤ 57 from (by omega)))) (show (en3 + 1) - en ≤ 4 → (((su * 10) + (gz bf en3)) - 48) = xDv (tX bf ln) en ((en3 + 1) - en).toNat from (fun h9 => by have g9 := hsu (by omega); have k9 := xDv_step (T := tX bf ln) (a := en) (e := en3) (by omega) g9; omega)) (show 0 ≤ (((su * 10) + (gz bf en3)) - 48) ∧ (((su * 10) + (gz bf en3)) - 48) ≤ 9999 ∧ ((en3 + 1) - en ≤ 3 → (((su * 10) + (gz bf en3)) - 48) ≤ 999) ∧ ((en3 + 1) - en ≤ 2 → (((su * 10) + (gz bf en3)) - 48) ≤ 99) ∧ ((en3 + 1) - en ≤ 1 → (((su * 10) + (gz bf en3)) - 48) ≤ 9) ∧ ((en3 + 1) - en ≤ 0 → (((su * 10) + (gz bf en3)) - 48) ≤ 0) from ⟨by omega, by omega, fun _ => by omega, fun _ => by omega, fun _ => by omega, fun _ => by omega⟩) (hP.sub [0, 1, 2] rfl) (hD.sub [0, 1, 2] rfl rfl) hS (lv_sub hl [0, 1] rfl)
  exact HL1 902 0 en _ _ _ (by omega) (show en ≤ en ∧ en ≤ ln from ⟨by omega, by omega⟩) (show ∀ j : Int, en ≤ j → j < en → dgB (tX bf ln j) from rn_none) (show en - en ≤ 4 → 0 = xDv (tX bf ln) en (en - en).toNat from (fun _ => xDv_0.symm)) (show 0 ≤ 0 ∧ 0 ≤ 9999 ∧ (en - en ≤ 3 → 0 ≤ 999) ∧ (en - en ≤ 2 → 0 ≤ 99) ∧ (en - en ≤ 1 → 0 ≤ 9) ∧ (en - en ≤ 0 → 0 ≤ 0) from ⟨by omega, by omega, fun _ => by omega, fun _ => by omega, fun _ => by omega, fun _ => by omega⟩) (hP.sub [0, 1, 2] rfl) (hD.sub [0, 1, 2] rfl rfl) hS (lv_sub hl [0, 1] rfl)
set_option maxHeartbeats 4000000 in
set_option maxRecDepth 100000 in
theorem x_readWord (l : Launch) (D : va_G) (k : Nat → ClassId) (hr1 : Nat) (tx : Nat) (kw : Nat) (tp : Int) (ln : Int) (pl : Int) (en : Int) (ki : Int) (va : Int) (ke : Int) (fk : Int) (fp : Int) (nm : Int64) (bf : Nat → Int32) (kwf : Nat → Int64) (hI1 : (0 ≤ tp ∧ tp ≤ 900) ∧ (0 ≤ ln ∧ ln ≤ 900) ∧ (0 ≤ en ∧ en ≤ ln)) (hbf : rgI bf (-128) 127 900) (hkw : ∀ j : Nat, j < 25 → kwf j = lZ (kwC j)) (hpe : pl = en) (hke0 : ke = -1) : WD (σ := ((Int × Int × Int × Int) × (Int64 × Int64) × (Unit) × (Unit))) l yX4_readWord cX4_readWord 4 none 0 0 0 D k [.ref hr1] [(hr1, .inr (4, [.ref tx, .ref kw, .int (iZ tp), .int (iZ ln), .int (iZ pl), .int (iZ en), .int (iZ ki), .int (iZ va), .int (iZ ke), .long nm, .int (iZ fk), .int (iZ fp)])), (tx, .inl (k 0, 900, .inl bf)), (kw, .inl (k 2, 25, .inr (.inl kwf)))] (fun _ => none) (fun u => (isRn smB (tX bf ln) en u.1.2.1) ∧ (u.2.1.2 = lZ (xCw (tX bf ln) en u.1.2.1)) ∧ (u.1.2.2.2 = kwu (xCw (tX bf ln) en u.1.2.1) 25) ∧ ((u.1.2.2.1 : Int) = 1) ∧ (en ≤ u.1.2.1 ∧ u.1.2.1 ≤ ln) ∧ (-1 ≤ u.1.2.2.2 ∧ u.1.2.2.2 ≤ 24)) (fun u => [(hr1, .inr (4, [.ref tx, .ref kw, .int (iZ tp), .int (iZ ln), .int (iZ pl), .int (iZ u.1.2.1), .int (iZ u.1.2.2.1), .int (iZ va), .int (iZ u.1.2.2.2), .long u.2.1.2, .int (iZ fk), .int (iZ fp)])), (tx, .inl (k 0, 900, .inl bf)), (kw, .inl (k 2, 25, .inr (.inl kwf)))]) := by
  refine MW (by decide) (Nat.le_of_ble_eq_true rfl) (fun p e s m below meth c ls A hx hb hml hr hlocks hin hts hown hKK hP hD hS hA hl => ?_)
  have hK := hKK.1
  have hl : lv_has ls 4 [(0, .ref hr1)] := hl
  refine lv_aload_n hx hb dX4_readWord_0 rfl (lv_at hl 0 rfl) ?_
  refine lv_iconst (v := iZ 1) hx hb dX4_readWord_1 rfl ?_
  refine va_put (D := D) (ci := 4) (v := .int (iZ 1)) (ty := .int) (C := RX4) (T := TX4) (N := 12) hx hb hts iX4 tyX4 tyX4_ok nmX4 hown hK hP hD hS 0 rfl rfl 6 (bl rfl) (hts _ qf_X4_68) (fun _ h => h) rfl (by decide +kernel) rfl rfl (Nat.le_of_ble_eq_true rfl) dX4_readWord_2 (fun H locs hP hD hS => ?_)
  refine lv_lconst (v := 0) hx hb dX4_readWord_5 rfl ?_
  refine lv_lstore_n (lv' := [(1, .long 0), (0, .ref hr1)]) hx hb dX4_readWord_6 rfl hl (bl rfl) rfl (fun ls hl => ?_)
  have HL1 : ∀ (fu : Nat) (cd : Int64) (en3 : Int) (H : Heap) (locs : List Loc) (ls : Array Slot), (ln + 1 - en3) < (fu : Int) → (en ≤ en3 ∧ en3 ≤ ln) → (∀ j : Int, en ≤ j → j < en3 → smB (tX bf ln j)) → ((en3 - en ≤ 8 → cd = lZ (xCd (tX bf ln) en (en3 - en).toNat)) ∧ (8 < en3 - en → cd = lZ (-1))) → va_P D vwCl [(hr1, .inr (4, [.ref tx, .ref kw, .int (iZ tp), .int (iZ ln), .int (iZ pl), .int (iZ en3), .int (iZ 1), .int (iZ va), .int (iZ ke), .long nm, .int (iZ fk), .int (iZ fp)])), (tx, .inl (k 0, 900, .inl bf)), (kw, .inl (k 2, 25, .inr (.inl kwf)))] H → va_D A [(hr1, .inr (4, [.ref tx, .ref kw, .int (iZ tp), .int (iZ ln), .int (iZ pl), .int (iZ en3), .int (iZ 1), .int (iZ va), .int (iZ ke), .long nm, .int (iZ fk), .int (iZ fp)])), (tx, .inl (k 0, 900, .inl bf)), (kw, .inl (k 2, 25, .inr (.inl kwf)))] → va_S A s.heap H locs → lv_has ls 4 [(1, .long cd), (0, .ref hr1)] → W p l e (rj 0 0 0) s m [.ref hr1].toArray below meth c H locs 0 0 (MQ below (QW (σ := ((Int × Int × Int × Int) × (Int64 × Int64) × (Unit) × (Unit))) (fun _ => none) (fun u => (isRn smB (tX bf ln) en u.1.2.1) ∧ (u.2.1.2 = lZ (xCw (tX bf ln) en u.1.2.1)) ∧ (u.1.2.2.2 = kwu (xCw (tX bf ln) en u.1.2.1) 25) ∧ ((u.1.2.2.1 : Int) = 1) ∧ (en ≤ u.1.2.1 ∧ u.1.2.1 ≤ ln) ∧ (-1 ≤ u.1.2.2.2 ∧ u.1.2.2.2 ≤ 24)) (fun u => [(hr1, .inr (4, [.ref tx, .ref kw, .int (iZ tp), .int (iZ ln), .int (iZ pl), .int (iZ u.1.2.1), .int (iZ u.1.2.2.1), .int (iZ va), .int (iZ u.1.2.2.2), .long u.2.1.2, .int (iZ fk), .int (iZ fp)])), (tx, .inl (k 0, 900, .inl bf)), (kw, .inl (k 2, 25, .inr (.inl kwf)))]) D A) [.ref hr1].toArray s 0 0 A) (F0 m 7 ls []) := by
    intro fu
    induction fu with
    | zero => intro cd en3 H locs ls hμ1 he1 hrun hcd hP hD hS hl; exact absurd hμ1 (by omega)
    | succ fu ih1 =>
      intro cd en3 H locs ls hμ1 he1 hrun hcd hP hD hS hl
      refine lv_aload_n hx hb dX4_readWord_7 rfl (lv_at hl 1 rfl) ?_
      refine va_get (D := D) (ci := 4) (v := .int (iZ en3)) (C := RX4) (T := TX4) (N := 12) hx hb hts iX4 hown hK hP 0 rfl rfl 5 (bl rfl) (hts _ qf_X4_47) (fun _ h => h) rfl dX4_readWord_8 ?_
      refine lv_aload_n hx hb dX4_readWord_11 rfl (lv_at hl 1 rfl) ?_
      refine va_get (D := D) (ci := 4) (v := .int (iZ ln)) (C := RX4) (T := TX4) (N := 12) hx hb hts iX4 hown hK hP 0 rfl rfl 3 (bl rfl) (hts _ qf_X4_45) (fun _ h => h) rfl dX4_readWord_12 ?_
      refine lv_icmp_ge (tgt := 102) hx hb dX4_readWord_15 rfl (fun c_1 => ?_) (fun c_1 => ?_)
      ·
        have c_1 := (zle (x := iZ ln) (y := iZ en3) rfl rfl ⟨by omega, by omega⟩ ⟨by omega, by omega⟩).mp c_1
        have hte_2 := tX_c (f := bf) (sz := ln) (x := en3) (by omega) (fun h9 => hbf _ (by omega) (by omega))
        have hrn : isRn smB (tX bf ln) en en3 := ⟨by omega, hrun, (show ¬ (97 ≤ tX bf ln en3 ∧ tX bf ln en3 ≤ 122) from (by omega))⟩
        have hcz := xCw_z hcd
        have hcr := xCw_rg hrn
        refine lv_aload_n hx hb dX4_readWord_102 rfl (lv_at hl 1 rfl) ?_
        refine lv_lload_n hx hb dX4_readWord_103 rfl (lv_at hl 0 rfl) ?_
        refine va_put (D := D) (ci := 4) (v := .long cd) (ty := .long) (C := RX4) (T := TX4) (N := 12) hx hb hts iX4 tyX4 tyX4_ok nmX4 hown hK hP hD hS 0 rfl rfl 9 (bl rfl) (hts _ qf_X4_61) (fun _ h => h) rfl (by decide +kernel) rfl rfl (Nat.le_of_ble_eq_true rfl) dX4_readWord_104 (fun H locs hP hD hS => ?_)
        refine lv_iconst (v := iZ 0) hx hb dX4_readWord_107 rfl ?_
        refine lv_istore_n (lv' := [(3, .int (iZ 0)), (1, .long cd), (0, .ref hr1)]) hx hb dX4_readWord_108 rfl hl (bl rfl) rfl (fun ls hl => ?_)
        have HL2 : ∀ (fu : Nat) (j : Int) (ke4 : Int) (H : Heap) (locs : List Loc) (ls : Array Slot), (26 - j) < (fu : Int) → (0 ≤ j ∧ j ≤ 25) → (ke4 = kwu (xCw (tX bf ln) en en3) (Int.toNat j)) → va_P D vwCl [(hr1, .inr (4, [.ref tx, .ref kw, .int (iZ tp), .int (iZ ln), .int (iZ pl), .int (iZ en3), .int (iZ 1), .int (iZ va), .int (iZ ke4), .long cd, .int (iZ fk), .int (iZ fp)])), (tx, .inl (k 0, 900, .inl bf)), (kw, .inl (k 2, 25, .inr (.inl kwf)))] H → va_D A [(hr1, .inr (4, [.ref tx, .ref kw, .int (iZ tp), .int (iZ ln), .int (iZ pl), .int (iZ en3), .int (iZ 1), .int (iZ va), .int (iZ ke4), .long cd, .int (iZ fk), .int (iZ fp)])), (tx, .inl (k 0, 900, .inl bf)), (kw, .inl (k 2, 25, .inr (.inl kwf)))] → va_S A s.heap H locs → lv_has ls 4 [(3, .int (iZ j)), (1, .long cd), (0, .ref hr1)] → W p l e (rj 0 0 0) s m [.ref hr1].toArray below meth c H locs 0 0 (MQ below (QW (σ := ((Int × Int × Int × Int) × (Int64 × Int64) × (Unit) × (Unit))) (fun _ => none) (fun u => (isRn smB (tX bf ln) en u.1.2.1) ∧ (u.2.1.2 = lZ (xCw (tX bf ln) en u.1.2.1)) ∧ (u.1.2.2.2 = kwu (xCw (tX bf ln) en u.1.2.1) 25) ∧ ((u.1.2.2.1 : Int) = 1) ∧ (en ≤ u.1.2.1 ∧ u.1.2.1 ≤ ln) ∧ (-1 ≤ u.1.2.2.2 ∧ u.1.2.2.2 ≤ 24)) (fun u => [(hr1, .inr (4, [.ref tx, .ref kw, .int (iZ tp), .int (iZ ln), .int (iZ pl), .int (iZ u.1.2.1), .int (iZ u.1.2.2.1), .int (iZ va), .int (iZ u.1.2.2.2), .long u.2.1.2, .int (iZ fk), .int (iZ fp)])), (tx, .inl (k 0, 900, .inl bf)), (kw, .inl (k 2, 25, .inr (.inl kwf)))]) D A) [.ref hr1].toArray s 0 0 A) (F0 m 109 ls []) := by
          intro fu
          induction fu with
          | zero => intro j ke4 H locs ls hμ2 hj hkj hP hD hS hl; exact absurd hμ2 (by omega)
          | succ fu ih2 =>
            intro j ke4 H locs ls hμ2 hj hkj hP hD hS hl
            refine lv_iload_n hx hb dX4_readWord_109 rfl (lv_at hl 0 rfl) ?_
            refine lv_bipush (v := iZ 25) hx hb dX4_readWord_110 bip_25 ?_
            refine lv_icmp_ge (tgt := 137) hx hb dX4_readWord_112 rfl (fun c_3 => ?_) (fun c_3 => ?_)
            ·
              have c_3 := (zle (x := iZ 25) (y := iZ j) rfl rfl wn_25 ⟨by omega, by omega⟩).mp c_3
              exact EWv hx hb hr hlocks hS ((0, en3, 1, ke4), (0, cd), (), ()) rfl ⟨(show isRn smB (tX bf ln) en en3 from hrn), (show cd = lZ (xCw (tX bf ln) en en3) from hcz), (show ke4 = kwu (xCw (tX bf ln) en en3) 25 from (by rw [hkj, show j = 25 from (by omega)]; rfl)), (show (1 : Int) = 1 from (by omega)), (show en ≤ en3 ∧ en3 ≤ ln from (by omega)), (show -1 ≤ ke4 ∧ ke4 ≤ 24 from (by have := kwu_rg (xCw (tX bf ln) en en3) 25; have k9 : ke4 = kwu (xCw (tX bf ln) en en3) 25 := (by rw [hkj, show j = 25 from (by omega)]; rfl); omega))⟩ (hP.sub [0, 1, 2] rfl) (hD.sub [0, 1, 2] rfl rfl) dX4_readWord_137
            ·
              have c_3 := mt (zle (x := iZ 25) (y := iZ j) rfl rfl wn_25 ⟨by omega, by omega⟩).mpr c_3
              refine lv_aload_n hx hb dX4_readWord_115 rfl (lv_at hl 2 rfl) ?_
              refine va_get (D := D) (ci := 4) (v := .ref kw) (C := RX4) (T := TX4) (N := 12) hx hb hts iX4 hown hK hP 0 rfl rfl 1 (bl rfl) (hts _ qf_X4_15) (fun _ h => h) rfl dX4_readWord_116 ?_
              refine lv_iload_n hx hb dX4_readWord_119 rfl (lv_at hl 0 rfl) ?_
              refine va_lald hx hb hK hP 2 2 rfl rfl (zin (e := j) (n := 25) ⟨by omega, by omega⟩ (bl rfl)) dX4_readWord_120 ?_
              refine lv_topl (fun y_4 ey_4 => ?_)
              refine lv_lload_n hx hb dX4_readWord_121 rfl (lv_at hl 1 rfl) ?_
              refine W.lcmp hx hb dX4_readWord_122 ?_
              refine lv_if_ne (tgt := 131) hx hb dX4_readWord_123 rfl (fun c_5 => ?_) (fun c_5 => ?_)
              ·
                have c_5 := mt (fun h9 => (lg_cmp_eq y_4 cd).mpr (Int64.toInt_inj.symm.mpr h9)) c_5
                refine lv_iinc (v := iZ (j + 1)) (lv' := [(3, .int (iZ (j + 1))), (1, .long cd), (0, .ref hr1)]) hx hb dX4_readWord_131 hl (k := 0) rfl (iZ_add j 1) (by decide) rfl (fun ls hl => ?_)
                refine lv_goto (tgt := 109) hx hb dX4_readWord_134 rfl ?_
                exact ih2  (j + 1) ke4 _ _ _ (by omega) (show 0 ≤ (j + 1) ∧ (j + 1) ≤ 25 from ⟨by omega, by omega⟩) (show ke4 = kwu (xCw (tX bf ln) en en3) (Int.toNat (j + 1)) from (by rw [kwu_step (by omega), if_neg (mt (kw_eq hkw ⟨by omega, by omega⟩ ey_4 hcz hcr).mpr c_5)]; exact hkj)) (hP.sub [0, 1, 2] rfl) (hD.sub [0, 1, 2] rfl rfl) hS (lv_sub hl [0, 1, 2] rfl)
              ·
                have c_5 := Int64.toInt_inj.symm.mp ((lg_cmp_eq y_4 cd).mp c_5)
                refine lv_aload_n hx hb dX4_readWord_126 rfl (lv_at hl 2 rfl) ?_
                refine lv_iload_n hx hb dX4_readWord_127 rfl (lv_at hl 0 rfl) ?_
                refine va_put (D := D) (ci := 4) (v := .int (iZ j)) (ty := .int) (C := RX4) (T := TX4) (N := 12) hx hb hts iX4 tyX4 tyX4_ok nmX4 hown hK hP hD hS 0 rfl rfl 8 (bl rfl) (hts _ qf_X4_56) (fun _ h => h) rfl (by decide +kernel) rfl rfl (Nat.le_of_ble_eq_true rfl) dX4_readWord_128 (fun H locs hP hD hS => ?_)
                refine lv_iinc (v := iZ (j + 1)) (lv' := [(3, .int (iZ (j + 1))), (1, .long cd), (0, .ref hr1)]) hx hb dX4_readWord_131 hl (k := 0) rfl (iZ_add j 1) (by decide) rfl (fun ls hl => ?_)
                refine lv_goto (tgt := 109) hx hb dX4_readWord_134 rfl ?_
                exact ih2  (j + 1) j _ _ _ (by omega) (show 0 ≤ (j + 1) ∧ (j + 1) ≤ 25 from ⟨by omega, by omega⟩) (show j = kwu (xCw (tX bf ln) en en3) (Int.toNat (j + 1)) from (by rw [kwu_step (by omega), if_pos ((kw_eq hkw ⟨by omega, by omega⟩ ey_4 hcz hcr).mp c_5)])) (hP.sub [0, 1, 2] rfl) (hD.sub [0, 1, 2] rfl rfl) hS (lv_sub hl [0, 1, 2] rfl)
        exact HL2 27 0 ke _ _ _ (by omega) (show 0 ≤ 0 ∧ 0 ≤ 25 from ⟨by omega, by omega⟩) (show ke = kwu (xCw (tX bf ln) en en3) (Int.toNat 0) from (by rw [hke0]; rfl)) (hP.sub [0, 1, 2] rfl) (hD.sub [0, 1, 2] rfl rfl) hS (lv_sub hl [0, 1, 2] rfl)
      ·
        have c_1 := mt (zle (x := iZ ln) (y := iZ en3) rfl rfl ⟨by omega, by omega⟩ ⟨by omega, by omega⟩).mpr c_1
        refine lv_aload_n hx hb dX4_readWord_18 rfl (lv_at hl 1 rfl) ?_
        refine va_get (D := D) (ci := 4) (v := .ref tx) (C := RX4) (T := TX4) (N := 12) hx hb hts iX4 hown hK hP 0 rfl rfl 0 (bl rfl) (hts _ qf_X4_9) (fun _ h => h) rfl dX4_readWord_19 ?_
        refine lv_aload_n hx hb dX4_readWord_22 rfl (lv_at hl 1 rfl) ?_
        refine va_get (D := D) (ci := 4) (v := .int (iZ en3)) (C := RX4) (T := TX4) (N := 12) hx hb hts iX4 hown hK hP 0 rfl rfl 5 (bl rfl) (hts _ qf_X4_47) (fun _ h => h) rfl dX4_readWord_23 ?_
        refine va_bald hx hb hK hP 1 0 rfl rfl (zin (e := en3) (n := 900) ⟨by omega, by omega⟩ (bl rfl)) dX4_readWord_26 ?_
        refine lv_topi (fun x_6 ex_6 => ?_)
        obtain rfl : x_6 = iZ (gz bf en3) := ex_6.trans (gz_eq ⟨by omega, by omega⟩)
        have h_7 := hbf en3 (by omega) (by omega)
        have ht_8 := tX_c (f := bf) (sz := ln) (x := en3) (by omega) (fun _ => h_7)
        refine lv_bipush (v := iZ 97) hx hb dX4_readWord_27 bip_97 ?_
        refine lv_icmp_lt (tgt := 102) hx hb dX4_readWord_29 rfl (fun c_9 => ?_) (fun c_9 => ?_)
        ·
          have c_9 := (zlt (x := iZ (gz bf en3)) (y := iZ 97) rfl rfl (gz_rg bf en3) wn_97).mp c_9
          have hte_10 := tX_c (f := bf) (sz := ln) (x := en3) (by omega) (fun h9 => hbf _ (by omega) (by omega))
          have hrn : isRn smB (tX bf ln) en en3 := ⟨by omega, hrun, (show ¬ (97 ≤ tX bf ln en3 ∧ tX bf ln en3 ≤ 122) from (by omega))⟩
          have hcz := xCw_z hcd
          have hcr := xCw_rg hrn
          refine lv_aload_n hx hb dX4_readWord_102 rfl (lv_at hl 1 rfl) ?_
          refine lv_lload_n hx hb dX4_readWord_103 rfl (lv_at hl 0 rfl) ?_
          refine va_put (D := D) (ci := 4) (v := .long cd) (ty := .long) (C := RX4) (T := TX4) (N := 12) hx hb hts iX4 tyX4 tyX4_ok nmX4 hown hK hP hD hS 0 rfl rfl 9 (bl rfl) (hts _ qf_X4_61) (fun _ h => h) rfl (by decide +kernel) rfl rfl (Nat.le_of_ble_eq_true rfl) dX4_readWord_104 (fun H locs hP hD hS => ?_)
          refine lv_iconst (v := iZ 0) hx hb dX4_readWord_107 rfl ?_
          refine lv_istore_n (lv' := [(3, .int (iZ 0)), (1, .long cd), (0, .ref hr1)]) hx hb dX4_readWord_108 rfl hl (bl rfl) rfl (fun ls hl => ?_)
          have HL2 : ∀ (fu : Nat) (j : Int) (ke4 : Int) (H : Heap) (locs : List Loc) (ls : Array Slot), (26 - j) < (fu : Int) → (0 ≤ j ∧ j ≤ 25) → (ke4 = kwu (xCw (tX bf ln) en en3) (Int.toNat j)) → va_P D vwCl [(hr1, .inr (4, [.ref tx, .ref kw, .int (iZ tp), .int (iZ ln), .int (iZ pl), .int (iZ en3), .int (iZ 1), .int (iZ va), .int (iZ ke4), .long cd, .int (iZ fk), .int (iZ fp)])), (tx, .inl (k 0, 900, .inl bf)), (kw, .inl (k 2, 25, .inr (.inl kwf)))] H → va_D A [(hr1, .inr (4, [.ref tx, .ref kw, .int (iZ tp), .int (iZ ln), .int (iZ pl), .int (iZ en3), .int (iZ 1), .int (iZ va), .int (iZ ke4), .long cd, .int (iZ fk), .int (iZ fp)])), (tx, .inl (k 0, 900, .inl bf)), (kw, .inl (k 2, 25, .inr (.inl kwf)))] → va_S A s.heap H locs → lv_has ls 4 [(3, .int (iZ j)), (1, .long cd), (0, .ref hr1)] → W p l e (rj 0 0 0) s m [.ref hr1].toArray below meth c H locs 0 0 (MQ below (QW (σ := ((Int × Int × Int × Int) × (Int64 × Int64) × (Unit) × (Unit))) (fun _ => none) (fun u => (isRn smB (tX bf ln) en u.1.2.1) ∧ (u.2.1.2 = lZ (xCw (tX bf ln) en u.1.2.1)) ∧ (u.1.2.2.2 = kwu (xCw (tX bf ln) en u.1.2.1) 25) ∧ ((u.1.2.2.1 : Int) = 1) ∧ (en ≤ u.1.2.1 ∧ u.1.2.1 ≤ ln) ∧ (-1 ≤ u.1.2.2.2 ∧ u.1.2.2.2 ≤ 24)) (fun u => [(hr1, .inr (4, [.ref tx, .ref kw, .int (iZ tp), .int (iZ ln), .int (iZ pl), .int (iZ u.1.2.1), .int (iZ u.1.2.2.1), .int (iZ va), .int (iZ u.1.2.2.2), .long u.2.1.2, .int (iZ fk), .int (iZ fp)])), (tx, .inl (k 0, 900, .inl bf)), (kw, .inl (k 2, 25, .inr (.inl kwf)))]) D A) [.ref hr1].toArray s 0 0 A) (F0 m 109 ls []) := by
            intro fu
            induction fu with
            | zero => intro j ke4 H locs ls hμ2 hj hkj hP hD hS hl; exact absurd hμ2 (by omega)
            | succ fu ih2 =>
              intro j ke4 H locs ls hμ2 hj hkj hP hD hS hl
              refine lv_iload_n hx hb dX4_readWord_109 rfl (lv_at hl 0 rfl) ?_
              refine lv_bipush (v := iZ 25) hx hb dX4_readWord_110 bip_25 ?_
              refine lv_icmp_ge (tgt := 137) hx hb dX4_readWord_112 rfl (fun c_11 => ?_) (fun c_11 => ?_)
              ·
                have c_11 := (zle (x := iZ 25) (y := iZ j) rfl rfl wn_25 ⟨by omega, by omega⟩).mp c_11
                exact EWv hx hb hr hlocks hS ((0, en3, 1, ke4), (0, cd), (), ()) rfl ⟨(show isRn smB (tX bf ln) en en3 from hrn), (show cd = lZ (xCw (tX bf ln) en en3) from hcz), (show ke4 = kwu (xCw (tX bf ln) en en3) 25 from (by rw [hkj, show j = 25 from (by omega)]; rfl)), (show (1 : Int) = 1 from (by omega)), (show en ≤ en3 ∧ en3 ≤ ln from (by omega)), (show -1 ≤ ke4 ∧ ke4 ≤ 24 from (by have := kwu_rg (xCw (tX bf ln) en en3) 25; have k9 : ke4 = kwu (xCw (tX bf ln) en en3) 25 := (by rw [hkj, show j = 25 from (by omega)]; rfl); omega))⟩ (hP.sub [0, 1, 2] rfl) (hD.sub [0, 1, 2] rfl rfl) dX4_readWord_137
              ·
                have c_11 := mt (zle (x := iZ 25) (y := iZ j) rfl rfl wn_25 ⟨by omega, by omega⟩).mpr c_11
                refine lv_aload_n hx hb dX4_readWord_115 rfl (lv_at hl 2 rfl) ?_
                refine va_get (D := D) (ci := 4) (v := .ref kw) (C := RX4) (T := TX4) (N := 12) hx hb hts iX4 hown hK hP 0 rfl rfl 1 (bl rfl) (hts _ qf_X4_15) (fun _ h => h) rfl dX4_readWord_116 ?_
                refine lv_iload_n hx hb dX4_readWord_119 rfl (lv_at hl 0 rfl) ?_
                refine va_lald hx hb hK hP 2 2 rfl rfl (zin (e := j) (n := 25) ⟨by omega, by omega⟩ (bl rfl)) dX4_readWord_120 ?_
                refine lv_topl (fun y_12 ey_12 => ?_)
                refine lv_lload_n hx hb dX4_readWord_121 rfl (lv_at hl 1 rfl) ?_
                refine W.lcmp hx hb dX4_readWord_122 ?_
                refine lv_if_ne (tgt := 131) hx hb dX4_readWord_123 rfl (fun c_13 => ?_) (fun c_13 => ?_)
                ·
                  have c_13 := mt (fun h9 => (lg_cmp_eq y_12 cd).mpr (Int64.toInt_inj.symm.mpr h9)) c_13
                  refine lv_iinc (v := iZ (j + 1)) (lv' := [(3, .int (iZ (j + 1))), (1, .long cd), (0, .ref hr1)]) hx hb dX4_readWord_131 hl (k := 0) rfl (iZ_add j 1) (by decide) rfl (fun ls hl => ?_)
                  refine lv_goto (tgt := 109) hx hb dX4_readWord_134 rfl ?_
                  exact ih2  (j + 1) ke4 _ _ _ (by omega) (show 0 ≤ (j + 1) ∧ (j + 1) ≤ 25 from ⟨by omega, by omega⟩) (show ke4 = kwu (xCw (tX bf ln) en en3) (Int.toNat (j + 1)) from (by rw [kwu_step (by omega), if_neg (mt (kw_eq hkw ⟨by omega, by omega⟩ ey_12 hcz hcr).mpr c_13)]; exact hkj)) (hP.sub [0, 1, 2] rfl) (hD.sub [0, 1, 2] rfl rfl) hS (lv_sub hl [0, 1, 2] rfl)
                ·
                  have c_13 := Int64.toInt_inj.symm.mp ((lg_cmp_eq y_12 cd).mp c_13)
                  refine lv_aload_n hx hb dX4_readWord_126 rfl (lv_at hl 2 rfl) ?_
                  refine lv_iload_n hx hb dX4_readWord_127 rfl (lv_at hl 0 rfl) ?_
                  refine va_put (D := D) (ci := 4) (v := .int (iZ j)) (ty := .int) (C := RX4) (T := TX4) (N := 12) hx hb hts iX4 tyX4 tyX4_ok nmX4 hown hK hP hD hS 0 rfl rfl 8 (bl rfl) (hts _ qf_X4_56) (fun _ h => h) rfl (by decide +kernel) rfl rfl (Nat.le_of_ble_eq_true rfl) dX4_readWord_128 (fun H locs hP hD hS => ?_)
                  refine lv_iinc (v := iZ (j + 1)) (lv' := [(3, .int (iZ (j + 1))), (1, .long cd), (0, .ref hr1)]) hx hb dX4_readWord_131 hl (k := 0) rfl (iZ_add j 1) (by decide) rfl (fun ls hl => ?_)
                  refine lv_goto (tgt := 109) hx hb dX4_readWord_134 rfl ?_
                  exact ih2  (j + 1) j _ _ _ (by omega) (show 0 ≤ (j + 1) ∧ (j + 1) ≤ 25 from ⟨by omega, by omega⟩) (show j = kwu (xCw (tX bf ln) en en3) (Int.toNat (j + 1)) from (by rw [kwu_step (by omega), if_pos ((kw_eq hkw ⟨by omega, by omega⟩ ey_12 hcz hcr).mp c_13)])) (hP.sub [0, 1, 2] rfl) (hD.sub [0, 1, 2] rfl rfl) hS (lv_sub hl [0, 1, 2] rfl)
          exact HL2 27 0 ke _ _ _ (by omega) (show 0 ≤ 0 ∧ 0 ≤ 25 from ⟨by omega, by omega⟩) (show ke = kwu (xCw (tX bf ln) en en3) (Int.toNat 0) from (by rw [hke0]; rfl)) (hP.sub [0, 1, 2] rfl) (hD.sub [0, 1, 2] rfl rfl) hS (lv_sub hl [0, 1, 2] rfl)
        ·
          have c_9 := mt (zlt (x := iZ (gz bf en3)) (y := iZ 97) rfl rfl (gz_rg bf en3) wn_97).mpr c_9
          refine lv_aload_n hx hb dX4_readWord_32 rfl (lv_at hl 1 rfl) ?_
          refine va_get (D := D) (ci := 4) (v := .ref tx) (C := RX4) (T := TX4) (N := 12) hx hb hts iX4 hown hK hP 0 rfl rfl 0 (bl rfl) (hts _ qf_X4_9) (fun _ h => h) rfl dX4_readWord_33 ?_
          refine lv_aload_n hx hb dX4_readWord_36 rfl (lv_at hl 1 rfl) ?_
          refine va_get (D := D) (ci := 4) (v := .int (iZ en3)) (C := RX4) (T := TX4) (N := 12) hx hb hts iX4 hown hK hP 0 rfl rfl 5 (bl rfl) (hts _ qf_X4_47) (fun _ h => h) rfl dX4_readWord_37 ?_
          refine va_bald hx hb hK hP 1 0 rfl rfl (zin (e := en3) (n := 900) ⟨by omega, by omega⟩ (bl rfl)) dX4_readWord_40 ?_
          refine lv_topi (fun x_14 ex_14 => ?_)
          obtain rfl : x_14 = iZ (gz bf en3) := ex_14.trans (gz_eq ⟨by omega, by omega⟩)
          have h_15 := hbf en3 (by omega) (by omega)
          have ht_16 := tX_c (f := bf) (sz := ln) (x := en3) (by omega) (fun _ => h_15)
          refine lv_bipush (v := iZ 122) hx hb dX4_readWord_41 bip_122 ?_
          refine lv_icmp_gt (tgt := 102) hx hb dX4_readWord_43 rfl (fun c_17 => ?_) (fun c_17 => ?_)
          ·
            have c_17 := (zlt (x := iZ 122) (y := iZ (gz bf en3)) rfl rfl wn_122 (gz_rg bf en3)).mp c_17
            have hte_18 := tX_c (f := bf) (sz := ln) (x := en3) (by omega) (fun h9 => hbf _ (by omega) (by omega))
            have hrn : isRn smB (tX bf ln) en en3 := ⟨by omega, hrun, (show ¬ (97 ≤ tX bf ln en3 ∧ tX bf ln en3 ≤ 122) from (by omega))⟩
            have hcz := xCw_z hcd
            have hcr := xCw_rg hrn
            refine lv_aload_n hx hb dX4_readWord_102 rfl (lv_at hl 1 rfl) ?_
            refine lv_lload_n hx hb dX4_readWord_103 rfl (lv_at hl 0 rfl) ?_
            refine va_put (D := D) (ci := 4) (v := .long cd) (ty := .long) (C := RX4) (T := TX4) (N := 12) hx hb hts iX4 tyX4 tyX4_ok nmX4 hown hK hP hD hS 0 rfl rfl 9 (bl rfl) (hts _ qf_X4_61) (fun _ h => h) rfl (by decide +kernel) rfl rfl (Nat.le_of_ble_eq_true rfl) dX4_readWord_104 (fun H locs hP hD hS => ?_)
            refine lv_iconst (v := iZ 0) hx hb dX4_readWord_107 rfl ?_
            refine lv_istore_n (lv' := [(3, .int (iZ 0)), (1, .long cd), (0, .ref hr1)]) hx hb dX4_readWord_108 rfl hl (bl rfl) rfl (fun ls hl => ?_)
            have HL2 : ∀ (fu : Nat) (j : Int) (ke4 : Int) (H : Heap) (locs : List Loc) (ls : Array Slot), (26 - j) < (fu : Int) → (0 ≤ j ∧ j ≤ 25) → (ke4 = kwu (xCw (tX bf ln) en en3) (Int.toNat j)) → va_P D vwCl [(hr1, .inr (4, [.ref tx, .ref kw, .int (iZ tp), .int (iZ ln), .int (iZ pl), .int (iZ en3), .int (iZ 1), .int (iZ va), .int (iZ ke4), .long cd, .int (iZ fk), .int (iZ fp)])), (tx, .inl (k 0, 900, .inl bf)), (kw, .inl (k 2, 25, .inr (.inl kwf)))] H → va_D A [(hr1, .inr (4, [.ref tx, .ref kw, .int (iZ tp), .int (iZ ln), .int (iZ pl), .int (iZ en3), .int (iZ 1), .int (iZ va), .int (iZ ke4), .long cd, .int (iZ fk), .int (iZ fp)])), (tx, .inl (k 0, 900, .inl bf)), (kw, .inl (k 2, 25, .inr (.inl kwf)))] → va_S A s.heap H locs → lv_has ls 4 [(3, .int (iZ j)), (1, .long cd), (0, .ref hr1)] → W p l e (rj 0 0 0) s m [.ref hr1].toArray below meth c H locs 0 0 (MQ below (QW (σ := ((Int × Int × Int × Int) × (Int64 × Int64) × (Unit) × (Unit))) (fun _ => none) (fun u => (isRn smB (tX bf ln) en u.1.2.1) ∧ (u.2.1.2 = lZ (xCw (tX bf ln) en u.1.2.1)) ∧ (u.1.2.2.2 = kwu (xCw (tX bf ln) en u.1.2.1) 25) ∧ ((u.1.2.2.1 : Int) = 1) ∧ (en ≤ u.1.2.1 ∧ u.1.2.1 ≤ ln) ∧ (-1 ≤ u.1.2.2.2 ∧ u.1.2.2.2 ≤ 24)) (fun u => [(hr1, .inr (4, [.ref tx, .ref kw, .int (iZ tp), .int (iZ ln), .int (iZ pl), .int (iZ u.1.2.1), .int (iZ u.1.2.2.1), .int (iZ va), .int (iZ u.1.2.2.2), .long u.2.1.2, .int (iZ fk), .int (iZ fp)])), (tx, .inl (k 0, 900, .inl bf)), (kw, .inl (k 2, 25, .inr (.inl kwf)))]) D A) [.ref hr1].toArray s 0 0 A) (F0 m 109 ls []) := by
              intro fu
              induction fu with
              | zero => intro j ke4 H locs ls hμ2 hj hkj hP hD hS hl; exact absurd hμ2 (by omega)
              | succ fu ih2 =>
                intro j ke4 H locs ls hμ2 hj hkj hP hD hS hl
                refine lv_iload_n hx hb dX4_readWord_109 rfl (lv_at hl 0 rfl) ?_
                refine lv_bipush (v := iZ 25) hx hb dX4_readWord_110 bip_25 ?_
                refine lv_icmp_ge (tgt := 137) hx hb dX4_readWord_112 rfl (fun c_19 => ?_) (fun c_19 => ?_)
                ·
                  have c_19 := (zle (x := iZ 25) (y := iZ j) rfl rfl wn_25 ⟨by omega, by omega⟩).mp c_19
                  exact EWv hx hb hr hlocks hS ((0, en3, 1, ke4), (0, cd), (), ()) rfl ⟨(show isRn smB (tX bf ln) en en3 from hrn), (show cd = lZ (xCw (tX bf ln) en en3) from hcz), (show ke4 = kwu (xCw (tX bf ln) en en3) 25 from (by rw [hkj, show j = 25 from (by omega)]; rfl)), (show (1 : Int) = 1 from (by omega)), (show en ≤ en3 ∧ en3 ≤ ln from (by omega)), (show -1 ≤ ke4 ∧ ke4 ≤ 24 from (by have := kwu_rg (xCw (tX bf ln) en en3) 25; have k9 : ke4 = kwu (xCw (tX bf ln) en en3) 25 := (by rw [hkj, show j = 25 from (by omega)]; rfl); omega))⟩ (hP.sub [0, 1, 2] rfl) (hD.sub [0, 1, 2] rfl rfl) dX4_readWord_137
                ·
                  have c_19 := mt (zle (x := iZ 25) (y := iZ j) rfl rfl wn_25 ⟨by omega, by omega⟩).mpr c_19
                  refine lv_aload_n hx hb dX4_readWord_115 rfl (lv_at hl 2 rfl) ?_
                  refine va_get (D := D) (ci := 4) (v := .ref kw) (C := RX4) (T := TX4) (N := 12) hx hb hts iX4 hown hK hP 0 rfl rfl 1 (bl rfl) (hts _ qf_X4_15) (fun _ h => h) rfl dX4_readWord_116 ?_
                  refine lv_iload_n hx hb dX4_readWord_119 rfl (lv_at hl 0 rfl) ?_
                  refine va_lald hx hb hK hP 2 2 rfl rfl (zin (e := j) (n := 25) ⟨by omega, by omega⟩ (bl rfl)) dX4_readWord_120 ?_
                  refine lv_topl (fun y_20 ey_20 => ?_)
                  refine lv_lload_n hx hb dX4_readWord_121 rfl (lv_at hl 1 rfl) ?_
                  refine W.lcmp hx hb dX4_readWord_122 ?_
                  refine lv_if_ne (tgt := 131) hx hb dX4_readWord_123 rfl (fun c_21 => ?_) (fun c_21 => ?_)
                  ·
                    have c_21 := mt (fun h9 => (lg_cmp_eq y_20 cd).mpr (Int64.toInt_inj.symm.mpr h9)) c_21
                    refine lv_iinc (v := iZ (j + 1)) (lv' := [(3, .int (iZ (j + 1))), (1, .long cd), (0, .ref hr1)]) hx hb dX4_readWord_131 hl (k := 0) rfl (iZ_add j 1) (by decide) rfl (fun ls hl => ?_)
                    refine lv_goto (tgt := 109) hx hb dX4_readWord_134 rfl ?_
                    exact ih2  (j + 1) ke4 _ _ _ (by omega) (show 0 ≤ (j + 1) ∧ (j + 1) ≤ 25 from ⟨by omega, by omega⟩) (show ke4 = kwu (xCw (tX bf ln) en en3) (Int.toNat (j + 1)) from (by rw [kwu_step (by omega), if_neg (mt (kw_eq hkw ⟨by omega, by omega⟩ ey_20 hcz hcr).mpr c_21)]; exact hkj)) (hP.sub [0, 1, 2] rfl) (hD.sub [0, 1, 2] rfl rfl) hS (lv_sub hl [0, 1, 2] rfl)
                  ·
                    have c_21 := Int64.toInt_inj.symm.mp ((lg_cmp_eq y_20 cd).mp c_21)
                    refine lv_aload_n hx hb dX4_readWord_126 rfl (lv_at hl 2 rfl) ?_
                    refine lv_iload_n hx hb dX4_readWord_127 rfl (lv_at hl 0 rfl) ?_
                    refine va_put (D := D) (ci := 4) (v := .int (iZ j)) (ty := .int) (C := RX4) (T := TX4) (N := 12) hx hb hts iX4 tyX4 tyX4_ok nmX4 hown hK hP hD hS 0 rfl rfl 8 (bl rfl) (hts _ qf_X4_56) (fun _ h => h) rfl (by decide +kernel) rfl rfl (Nat.le_of_ble_eq_true rfl) dX4_readWord_128 (fun H locs hP hD hS => ?_)
                    refine lv_iinc (v := iZ (j + 1)) (lv' := [(3, .int (iZ (j + 1))), (1, .long cd), (0, .ref hr1)]) hx hb dX4_readWord_131 hl (k := 0) rfl (iZ_add j 1) (by decide) rfl (fun ls hl => ?_)
                    refine lv_goto (tgt := 109) hx hb dX4_readWord_134 rfl ?_
                    exact ih2  (j + 1) j _ _ _ (by omega) (show 0 ≤ (j + 1) ∧ (j + 1) ≤ 25 from ⟨by omega, by omega⟩) (show j = kwu (xCw (tX bf ln) en en3) (Int.toNat (j + 1)) from (by rw [kwu_step (by omega), if_pos ((kw_eq hkw ⟨by omega, by omega⟩ ey_20 hcz hcr).mp c_21)])) (hP.sub [0, 1, 2] rfl) (hD.sub [0, 1, 2] rfl rfl) hS (lv_sub hl [0, 1, 2] rfl)
            exact HL2 27 0 ke _ _ _ (by omega) (show 0 ≤ 0 ∧ 0 ≤ 25 from ⟨by omega, by omega⟩) (show ke = kwu (xCw (tX bf ln) en en3) (Int.toNat 0) from (by rw [hke0]; rfl)) (hP.sub [0, 1, 2] rfl) (hD.sub [0, 1, 2] rfl rfl) hS (lv_sub hl [0, 1, 2] rfl)
          ·
            have c_17 := mt (zlt (x := iZ 122) (y := iZ (gz bf en3)) rfl rfl wn_122 (gz_rg bf en3)).mpr c_17
            refine lv_aload_n hx hb dX4_readWord_46 rfl (lv_at hl 1 rfl) ?_
            refine va_get (D := D) (ci := 4) (v := .int (iZ en3)) (C := RX4) (T := TX4) (N := 12) hx hb hts iX4 hown hK hP 0 rfl rfl 5 (bl rfl) (hts _ qf_X4_47) (fun _ h => h) rfl dX4_readWord_47 ?_
            refine lv_aload_n hx hb dX4_readWord_50 rfl (lv_at hl 1 rfl) ?_
            refine va_get (D := D) (ci := 4) (v := .int (iZ pl)) (C := RX4) (T := TX4) (N := 12) hx hb hts iX4 hown hK hP 0 rfl rfl 4 (bl rfl) (hts _ qf_X4_53) (fun _ h => h) rfl dX4_readWord_51 ?_
            refine lv_isub hx hb dX4_readWord_54 ?_
            refine lv_topi (fun x_22 ex_22 => ?_)
            obtain rfl : x_22 = iZ (en3 - pl) := ex_22.trans (iZ_sub en3 pl)
            refine lv_bipush (v := iZ 8) hx hb dX4_readWord_55 bip_8 ?_
            refine lv_icmp_ge (tgt := 85) hx hb dX4_readWord_57 rfl (fun c_23 => ?_) (fun c_23 => ?_)
            ·
              have c_23 := (zle (x := iZ 8) (y := iZ (en3 - pl)) rfl rfl wn_8 ⟨by omega, by omega⟩).mp c_23
              refine lv_ldc2 (own := RX4) (v := (-1)) hx hb hown (hts _ qk_X4_59) dX4_readWord_85 ?_
              refine lv_lstore_n (lv' := [(1, .long (-1)), (0, .ref hr1)]) hx hb dX4_readWord_88 rfl hl (bl rfl) rfl (fun ls hl => ?_)
              refine lv_aload_n hx hb dX4_readWord_89 rfl (lv_at hl 1 rfl) ?_
              refine lv_dup hx hb dX4_readWord_90 rfl ?_
              refine va_get (D := D) (ci := 4) (v := .int (iZ en3)) (C := RX4) (T := TX4) (N := 12) hx hb hts iX4 hown hK hP 0 rfl rfl 5 (bl rfl) (hts _ qf_X4_47) (fun _ h => h) rfl dX4_readWord_91 ?_
              refine lv_iconst (v := iZ 1) hx hb dX4_readWord_94 rfl ?_
              refine lv_iadd hx hb dX4_readWord_95 ?_
              refine lv_topi (fun x_24 ex_24 => ?_)
              obtain rfl : x_24 = iZ (en3 + 1) := ex_24.trans (iZ_add en3 1)
              refine va_put (D := D) (ci := 4) (v := .int (iZ (en3 + 1))) (ty := .int) (C := RX4) (T := TX4) (N := 12) hx hb hts iX4 tyX4 tyX4_ok nmX4 hown hK hP hD hS 0 rfl rfl 5 (bl rfl) (hts _ qf_X4_47) (fun _ h => h) rfl (by decide +kernel) rfl rfl (Nat.le_of_ble_eq_true rfl) dX4_readWord_96 (fun H locs hP hD hS => ?_)
              refine lv_goto (tgt := 7) hx hb dX4_readWord_99 rfl ?_
              exact ih1  (-1) (en3 + 1) _ _ _ (by omega) (show en ≤ (en3 + 1) ∧ (en3 + 1) ≤ ln from ⟨by omega, by omega⟩) (show ∀ j : Int, en ≤ j → j < (en3 + 1) → smB (tX bf ln j) from (rn_step hrun (show 97 ≤ tX bf ln en3 ∧ tX bf ln en3 ≤ 122 from (by omega)))) (show ((en3 + 1) - en ≤ 8 → (-1) = lZ (xCd (tX bf ln) en ((en3 + 1) - en).toNat)) ∧ (8 < (en3 + 1) - en → (-1) = lZ (-1)) from ⟨fun h9 => absurd h9 (by omega), fun _ => rfl⟩) (hP.sub [0, 1, 2] rfl) (hD.sub [0, 1, 2] rfl rfl) hS (lv_sub hl [0, 1] rfl)
            ·
              have c_23 := mt (zle (x := iZ 8) (y := iZ (en3 - pl)) rfl rfl wn_8 ⟨by omega, by omega⟩).mpr c_23
              refine lv_lload_n hx hb dX4_readWord_60 rfl (lv_at hl 0 rfl) ?_
              refine lv_ldc2 (own := RX4) (v := 32) hx hb hown (hts _ qk_X4_38) dX4_readWord_61 ?_
              refine lv_lmul hx hb dX4_readWord_64 ?_
              refine lv_topl (fun y_25 ey_25 => ?_)
              refine lv_aload_n hx hb dX4_readWord_65 rfl (lv_at hl 1 rfl) ?_
              refine va_get (D := D) (ci := 4) (v := .ref tx) (C := RX4) (T := TX4) (N := 12) hx hb hts iX4 hown hK hP 0 rfl rfl 0 (bl rfl) (hts _ qf_X4_9) (fun _ h => h) rfl dX4_readWord_66 ?_
              refine lv_aload_n hx hb dX4_readWord_69 rfl (lv_at hl 1 rfl) ?_
              refine va_get (D := D) (ci := 4) (v := .int (iZ en3)) (C := RX4) (T := TX4) (N := 12) hx hb hts iX4 hown hK hP 0 rfl rfl 5 (bl rfl) (hts _ qf_X4_47) (fun _ h => h) rfl dX4_readWord_70 ?_
              refine va_bald hx hb hK hP 1 0 rfl rfl (zin (e := en3) (n := 900) ⟨by omega, by omega⟩ (bl rfl)) dX4_readWord_73 ?_
              refine lv_topi (fun x_26 ex_26 => ?_)
              obtain rfl : x_26 = iZ (gz bf en3) := ex_26.trans (gz_eq ⟨by omega, by omega⟩)
              have h_27 := hbf en3 (by omega) (by omega)
              have ht_28 := tX_c (f := bf) (sz := ln) (x := en3) (by omega) (fun _ => h_27)
              refine lv_i2l (v := (iZ (gz bf en3)).toInt64) hx hb dX4_readWord_74 rfl ?_
              refine lv_ladd hx hb dX4_readWord_75 ?_
              refine lv_topl (fun y_29 ey_29 => ?_)
              refine lv_ldc2 (own := RX4) (v := 97) hx hb hown (hts _ qk_X4_40) dX4_readWord_76 ?_
              refine lv_lsub hx hb dX4_readWord_79 ?_
              refine lv_topl (fun y_30 ey_30 => ?_)
              refine lv_lconst (v := 1) hx hb dX4_readWord_80 rfl ?_
              refine lv_ladd hx hb dX4_readWord_81 ?_
              refine lv_topl (fun y_31 ey_31 => ?_)
              refine lv_goto (tgt := 88) hx hb dX4_readWord_82 rfl ?_
              refine lv_lstore_n (lv' := [(1, .long y_31), (0, .ref hr1)]) hx hb dX4_readWord_88 rfl hl (bl rfl) rfl (fun ls hl => ?_)
              refine lv_aload_n hx hb dX4_readWord_89 rfl (lv_at hl 1 rfl) ?_
              refine lv_dup hx hb dX4_readWord_90 rfl ?_
              refine va_get (D := D) (ci := 4) (v := .int (iZ en3)) (C := RX4) (T := TX4) (N := 12) hx hb hts iX4 hown hK hP 0 rfl rfl 5 (bl rfl) (hts _ qf_X4_47) (fun _ h => h) rfl dX4_readWord_91 ?_
              refine lv_iconst (v := iZ 1) hx hb dX4_readWord_94 rfl ?_
              refine lv_iadd hx hb dX4_readWord_95 ?_
              refine lv_topi (fun x_32 ex_32 => ?_)
              obtain rfl : x_32 = iZ (en3 + 1) := ex_32.trans (iZ_add en3 1)
              refine va_put (D := D) (ci := 4) (v := .int (iZ (en3 + 1))) (ty := .int) (C := RX4) (T := TX4) (N := 12) hx hb hts iX4 tyX4 tyX4_ok nmX4 hown hK hP hD hS 0 rfl rfl 5 (bl rfl) (hts _ qf_X4_47) (fun _ h => h) rfl (by decide +kernel) rfl rfl (Nat.le_of_ble_eq_true rfl) dX4_readWord_96 (fun H locs hP hD hS => ?_)
              refine lv_goto (tgt := 7) hx hb dX4_readWord_99 rfl ?_
              exact ih1  y_31 (en3 + 1) _ _ _ (by omega) (show en ≤ (en3 + 1) ∧ (en3 + 1) ≤ ln from ⟨by omega, by omega⟩) (show ∀ j : Int, en ≤ j → j < (en3 + 1) → smB (tX bf ln j) from (rn_step hrun (show 97 ≤ tX bf ln en3 ∧ tX bf ln en3 ≤ 122 from (by omega)))) (show ((en3 + 1) - en ≤ 8 → y_31 = lZ (xCd (tX bf ln) en ((en3 + 1) - en).toNat)) ∧ (8 < (en3 + 1) - en → y_31 = lZ (-1)) from ⟨fun h9 => by rw [ey_31, ey_30, ey_29, ey_25, hcd.1 (by omega), i2l_z (a := gz bf en3) ⟨by omega, by omega⟩]; exact wd_step (T := tX bf ln) (by omega) (by omega), fun h9 => absurd h9 (by omega)⟩) (hP.sub [0, 1, 2] rfl) (hD.sub [0, 1, 2] rfl rfl) hS (lv_sub hl [0, 1] rfl)
  exact HL1 902 0 en _ _ _ (by omega) (show en ≤ en ∧ en ≤ ln from ⟨by omega, by omega⟩) (show ∀ j : Int, en ≤ j → j < en → smB (tX bf ln j) from rn_none) (show (en - en ≤ 8 → 0 = lZ (xCd (tX bf ln) en (en - en).toNat)) ∧ (8 < en - en → 0 = lZ (-1)) from ⟨fun _ => by rw [xCd_0]; rfl, fun h9 => absurd h9 (by omega)⟩) (hP.sub [0, 1, 2] rfl) (hD.sub [0, 1, 2] rfl rfl) hS (lv_sub hl [0, 1] rfl)
end
