set_option maxHeartbeats 4000000 in
set_option maxRecDepth 100000 in
theorem m_gives (l : Launch) (D : va_G) (k : Nat → ClassId) (hm : Nat) (Ma : Nat) (Mn : Nat) (Ms : Nat) (My : Nat) (Mt : Nat) (Mp : Nat) (Mx : Nat) (Mo : Nat) (Mk : Nat) (Ml : Nat) (Mb : Nat) (Mh : Nat) (Mc : Nat) (Mz : Nat) (Mr : Nat) (Mq : Nat) (Mst : Int) (Mtd : Int) (Msz : Int) (Mtk : Int) (Mfr : Int) (Men : Int) (Mva : Int) (Mfk : Int) (Mfp : Int) (Mfs : Int) (Mse : Int) (Mlt : Int) (Mdp : Int) (Mct : Int) (Mdr : Int) (Mrs : Int) (Mit : Int) (Mmk : Int) (Mtp : Int64) (Mbt : Int64) (x : Int) : WD (σ := ((Int) × (Int64) × (Unit) × (Unit))) l yX12_gives cX12_gives 2 (some .int) 0 0 0 D k [.ref hm, .int (iZ x)] [(hm, .inr (12, [.ref Ma, .ref Mn, .int (iZ Mst), .long Mtp, .long Mbt, .ref Ms, .ref My, .ref Mt, .ref Mp, .ref Mx, .int (iZ Mtd), .int (iZ Msz), .int (iZ Mtk), .int (iZ Mfr), .int (iZ Men), .int (iZ Mva), .int (iZ Mfk), .int (iZ Mfp), .int (iZ Mfs), .int (iZ Mse), .int (iZ Mlt), .ref Mo, .int (iZ Mdp), .int (iZ Mct), .ref Mk, .ref Ml, .ref Mb, .ref Mh, .ref Mc, .int (iZ Mdr), .int (iZ Mrs), .ref Mz, .ref Mr, .ref Mq, .int (iZ Mit), .int (iZ Mmk)]))] (fun _ => some (.int (iZ x))) (fun _ => True) (fun u => [(hm, .inr (12, [.ref Ma, .ref Mn, .int (iZ 0), .long Mtp, .long Mbt, .ref Ms, .ref My, .ref Mt, .ref Mp, .ref Mx, .int (iZ Mtd), .int (iZ Msz), .int (iZ Mtk), .int (iZ Mfr), .int (iZ Men), .int (iZ Mva), .int (iZ Mfk), .int (iZ Mfp), .int (iZ Mfs), .int (iZ Mse), .int (iZ Mlt), .ref Mo, .int (iZ Mdp), .int (iZ Mct), .ref Mk, .ref Ml, .ref Mb, .ref Mh, .ref Mc, .int (iZ Mdr), .int (iZ Mrs), .ref Mz, .ref Mr, .ref Mq, .int (iZ Mit), .int (iZ Mmk)]))]) := by
  refine MW (by decide) (Nat.le_of_ble_eq_true rfl) (fun p e s m below meth c ls A hx hb hml hr hlocks hin hts hown hKK hP hD hS hA hl => ?_)
  have hK := hKK.1
  have hl : lv_has ls 2 [(0, .ref hm), (1, .int (iZ x))] := hl
  refine lv_aload_n hx hb dX12_gives_0 rfl (lv_at hl 0 rfl) ?_
  refine lv_iconst (v := iZ 0) hx hb dX12_gives_1 rfl ?_
  refine va_put (D := D) (ci := 12) (v := .int (iZ 0)) (ty := .int) (C := RX12) (T := TX12) (N := 36) hx hb hts iX12 tyX12 tyX12_ok nmX12 hown hK hP hD hS 0 rfl rfl 2 (bl rfl) (hts _ qf_X12_75) (fun _ h => h) rfl (by decide +kernel) rfl rfl (Nat.le_of_ble_eq_true rfl) dX12_gives_2 (fun H locs hP hD hS => ?_)
  refine lv_iload_n hx hb dX12_gives_5 rfl (lv_at hl 1 rfl) ?_
  exact EWi hx hb hr hlocks hS (0, 0, (), ()) rfl trivial (hP.sub [0] rfl) (hD.sub [0] rfl rfl) dX12_gives_6
set_option maxHeartbeats 4000000 in
set_option maxRecDepth 100000 in
theorem m_refuse (l : Launch) (D : va_G) (k : Nat → ClassId) (hm : Nat) (Ma : Nat) (Mn : Nat) (Ms : Nat) (My : Nat) (Mt : Nat) (Mp : Nat) (Mx : Nat) (Mo : Nat) (Mk : Nat) (Ml : Nat) (Mb : Nat) (Mh : Nat) (Mc : Nat) (Mz : Nat) (Mr : Nat) (Mq : Nat) (Mst : Int) (Mtd : Int) (Msz : Int) (Mtk : Int) (Mfr : Int) (Men : Int) (Mva : Int) (Mfk : Int) (Mfp : Int) (Mfs : Int) (Mse : Int) (Mlt : Int) (Mdp : Int) (Mct : Int) (Mdr : Int) (Mrs : Int) (Mit : Int) (Mmk : Int) (Mtp : Int64) (Mbt : Int64) (x : Int) : WD (σ := ((Int) × (Int64) × (Unit) × (Unit))) l yX12_refuse cX12_refuse 2 (some .int) 0 0 0 D k [.ref hm, .int (iZ x)] [(hm, .inr (12, [.ref Ma, .ref Mn, .int (iZ Mst), .long Mtp, .long Mbt, .ref Ms, .ref My, .ref Mt, .ref Mp, .ref Mx, .int (iZ Mtd), .int (iZ Msz), .int (iZ Mtk), .int (iZ Mfr), .int (iZ Men), .int (iZ Mva), .int (iZ Mfk), .int (iZ Mfp), .int (iZ Mfs), .int (iZ Mse), .int (iZ Mlt), .ref Mo, .int (iZ Mdp), .int (iZ Mct), .ref Mk, .ref Ml, .ref Mb, .ref Mh, .ref Mc, .int (iZ Mdr), .int (iZ Mrs), .ref Mz, .ref Mr, .ref Mq, .int (iZ Mit), .int (iZ Mmk)]))] (fun _ => some (.int (iZ (-1)))) (fun _ => True) (fun u => [(hm, .inr (12, [.ref Ma, .ref Mn, .int (iZ x), .long Mtp, .long Mbt, .ref Ms, .ref My, .ref Mt, .ref Mp, .ref Mx, .int (iZ Mtd), .int (iZ Msz), .int (iZ Mtk), .int (iZ Mfr), .int (iZ Men), .int (iZ Mva), .int (iZ Mfk), .int (iZ Mfp), .int (iZ Mfs), .int (iZ Mse), .int (iZ Mlt), .ref Mo, .int (iZ Mdp), .int (iZ Mct), .ref Mk, .ref Ml, .ref Mb, .ref Mh, .ref Mc, .int (iZ Mdr), .int (iZ Mrs), .ref Mz, .ref Mr, .ref Mq, .int (iZ Mit), .int (iZ Mmk)]))]) := by
  refine MW (by decide) (Nat.le_of_ble_eq_true rfl) (fun p e s m below meth c ls A hx hb hml hr hlocks hin hts hown hKK hP hD hS hA hl => ?_)
  have hK := hKK.1
  have hl : lv_has ls 2 [(0, .ref hm), (1, .int (iZ x))] := hl
  refine lv_aload_n hx hb dX12_refuse_0 rfl (lv_at hl 0 rfl) ?_
  refine lv_iload_n hx hb dX12_refuse_1 rfl (lv_at hl 1 rfl) ?_
  refine va_put (D := D) (ci := 12) (v := .int (iZ x)) (ty := .int) (C := RX12) (T := TX12) (N := 36) hx hb hts iX12 tyX12 tyX12_ok nmX12 hown hK hP hD hS 0 rfl rfl 2 (bl rfl) (hts _ qf_X12_75) (fun _ h => h) rfl (by decide +kernel) rfl rfl (Nat.le_of_ble_eq_true rfl) dX12_refuse_2 (fun H locs hP hD hS => ?_)
  refine lv_iconst (v := iZ (-1)) hx hb dX12_refuse_5 rfl ?_
  exact EWi hx hb hr hlocks hS (0, 0, (), ()) rfl trivial (hP.sub [0] rfl) (hD.sub [0] rfl rfl) dX12_refuse_6
set_option maxHeartbeats 4000000 in
set_option maxRecDepth 100000 in
theorem m_orNone (l : Launch) (D : va_G) (k : Nat → ClassId) (hm : Nat) (Ma : Nat) (Mn : Nat) (Ms : Nat) (My : Nat) (Mt : Nat) (Mp : Nat) (Mx : Nat) (Mo : Nat) (Mk : Nat) (Ml : Nat) (Mb : Nat) (Mh : Nat) (Mc : Nat) (Mz : Nat) (Mr : Nat) (Mq : Nat) (Mst : Int) (Mtd : Int) (Msz : Int) (Mtk : Int) (Mfr : Int) (Men : Int) (Mva : Int) (Mfk : Int) (Mfp : Int) (Mfs : Int) (Mse : Int) (Mlt : Int) (Mdp : Int) (Mct : Int) (Mdr : Int) (Mrs : Int) (Mit : Int) (Mmk : Int) (Mtp : Int64) (Mbt : Int64) (x : Int) (h9x : -2147483648 ≤ x ∧ x < 2147483648) : WD (σ := ((Int × Int) × (Int64) × (Unit) × (Unit))) l yX12_orNone cX12_orNone 2 (some .int) 1 0 0 D k [.ref hm, .int (iZ x)] [(hm, .inr (12, [.ref Ma, .ref Mn, .int (iZ Mst), .long Mtp, .long Mbt, .ref Ms, .ref My, .ref Mt, .ref Mp, .ref Mx, .int (iZ Mtd), .int (iZ Msz), .int (iZ Mtk), .int (iZ Mfr), .int (iZ Men), .int (iZ Mva), .int (iZ Mfk), .int (iZ Mfp), .int (iZ Mfs), .int (iZ Mse), .int (iZ Mlt), .ref Mo, .int (iZ Mdp), .int (iZ Mct), .ref Mk, .ref Ml, .ref Mb, .ref Mh, .ref Mc, .int (iZ Mdr), .int (iZ Mrs), .ref Mz, .ref Mr, .ref Mq, .int (iZ Mit), .int (iZ Mmk)]))] (fun _ => some (.int (iZ x))) (fun u => ((x : Int) = -1 ∧ u.1.2 = 6) ∨ (¬ (x : Int) = -1 ∧ u.1.2 = 0)) (fun u => [(hm, .inr (12, [.ref Ma, .ref Mn, .int (iZ u.1.2), .long Mtp, .long Mbt, .ref Ms, .ref My, .ref Mt, .ref Mp, .ref Mx, .int (iZ Mtd), .int (iZ Msz), .int (iZ Mtk), .int (iZ Mfr), .int (iZ Men), .int (iZ Mva), .int (iZ Mfk), .int (iZ Mfp), .int (iZ Mfs), .int (iZ Mse), .int (iZ Mlt), .ref Mo, .int (iZ Mdp), .int (iZ Mct), .ref Mk, .ref Ml, .ref Mb, .ref Mh, .ref Mc, .int (iZ Mdr), .int (iZ Mrs), .ref Mz, .ref Mr, .ref Mq, .int (iZ Mit), .int (iZ Mmk)]))]) := by
  refine MW (by decide) (Nat.le_of_ble_eq_true rfl) (fun p e s m below meth c ls A hx hb hml hr hlocks hin hts hown hKK hP hD hS hA hl => ?_)
  have hK := hKK.1
  have hl : lv_has ls 2 [(0, .ref hm), (1, .int (iZ x))] := hl
  refine lv_iload_n hx hb dX12_orNone_0 rfl (lv_at hl 1 rfl) ?_
  refine lv_iconst (v := iZ (-1)) hx hb dX12_orNone_1 rfl ?_
  refine lv_icmp_ne (tgt := 14) hx hb dX12_orNone_2 rfl (fun c_1 => ?_) (fun c_1 => ?_)
  ·
    have c_1 := mt (zeq (x := iZ x) (y := iZ (-1)) rfl rfl ⟨by omega, by omega⟩ wn_m1).mpr c_1
    refine lv_aload_n hx hb dX12_orNone_14 rfl (lv_at hl 0 rfl) ?_
    refine lv_iload_n hx hb dX12_orNone_15 rfl (lv_at hl 1 rfl) ?_
    refine CWV (As := [.int (iZ x)]) (rest := []) (wc := _) (wr := []) hx hb hml hown hts hKK hP hD hS hA (m_gives l D k hm Ma Mn Ms My Mt Mp Mx Mo Mk Ml Mb Mh Mc Mz Mr Mq Mst Mtd Msz Mtk Mfr Men Mva Mfk Mfp Mfs Mse Mlt Mdp Mct Mdr Mrs Mit Mmk Mtp Mbt x) ci_X12_gives qm_X12_85 ⟨Nat.le_of_ble_eq_true rfl, Nat.le_of_ble_eq_true rfl⟩ ⟨Nat.le_of_ble_eq_true rfl, Nat.le_of_ble_eq_true rfl⟩ [0] [] rfl rfl rfl rfl rfl (dj rfl) 0 rfl rfl rfl hl.1 rfl (Nat.le_of_ble_eq_true rfl) dX12_orNone_16 (fun u_2 H locs hφ hP hD hS => ?_)
    refine W.eq (g2 := F0 m 19 ls [.int (iZ x)]) rfl ?_
    exact EWi hx hb hr hlocks hS ((0, 0), 0, (), ()) rfl (show ((x : Int) = -1 ∧ 0 = 6) ∨ (¬ (x : Int) = -1 ∧ 0 = 0) from (by omega)) (hP.sub [0] rfl) (hD.sub [0] rfl rfl) dX12_orNone_19
  ·
    have c_1 := (zeq (x := iZ x) (y := iZ (-1)) rfl rfl ⟨by omega, by omega⟩ wn_m1).mp c_1
    refine lv_aload_n hx hb dX12_orNone_5 rfl (lv_at hl 0 rfl) ?_
    refine lv_bipush (v := iZ 6) hx hb dX12_orNone_6 bip_6 ?_
    refine CWV (As := [.int (iZ 6)]) (rest := []) (wc := _) (wr := []) hx hb hml hown hts hKK hP hD hS hA (m_refuse l D k hm Ma Mn Ms My Mt Mp Mx Mo Mk Ml Mb Mh Mc Mz Mr Mq Mst Mtd Msz Mtk Mfr Men Mva Mfk Mfp Mfs Mse Mlt Mdp Mct Mdr Mrs Mit Mmk Mtp Mbt 6) ci_X12_refuse qm_X12_81 ⟨Nat.le_of_ble_eq_true rfl, Nat.le_of_ble_eq_true rfl⟩ ⟨Nat.le_of_ble_eq_true rfl, Nat.le_of_ble_eq_true rfl⟩ [0] [] rfl rfl rfl rfl rfl (dj rfl) 0 rfl rfl rfl hl.1 rfl (Nat.le_of_ble_eq_true rfl) dX12_orNone_8 (fun u_3 H locs hφ hP hD hS => ?_)
    refine W.eq (g2 := F0 m 11 ls [.int (iZ (-1))]) rfl ?_
    refine lv_goto (tgt := 19) hx hb dX12_orNone_11 rfl ?_
    exact EWi hx hb hr hlocks hS ((0, 6), 0, (), ()) (congrArg (fun z9 => some (Value.int (iZ z9))) (show x = -1 from (by omega))) (show ((x : Int) = -1 ∧ 6 = 6) ∨ (¬ (x : Int) = -1 ∧ 6 = 0) from (by omega)) (hP.sub [0] rfl) (hD.sub [0] rfl rfl) dX12_orNone_19
set_option maxHeartbeats 4000000 in
set_option maxRecDepth 100000 in
theorem m_orNever (l : Launch) (D : va_G) (k : Nat → ClassId) (hm : Nat) (Ma : Nat) (Mn : Nat) (Ms : Nat) (My : Nat) (Mt : Nat) (Mp : Nat) (Mx : Nat) (Mo : Nat) (Mk : Nat) (Ml : Nat) (Mb : Nat) (Mh : Nat) (Mc : Nat) (Mz : Nat) (Mr : Nat) (Mq : Nat) (Mst : Int) (Mtd : Int) (Msz : Int) (Mtk : Int) (Mfr : Int) (Men : Int) (Mva : Int) (Mfk : Int) (Mfp : Int) (Mfs : Int) (Mse : Int) (Mlt : Int) (Mdp : Int) (Mct : Int) (Mdr : Int) (Mrs : Int) (Mit : Int) (Mmk : Int) (Mtp : Int64) (Mbt : Int64) (x : Int) (h9x : -2147483648 ≤ x ∧ x < 2147483648) : WD (σ := ((Int × Int) × (Int64) × (Unit) × (Unit))) l yX12_orNever cX12_orNever 2 (some .int) 1 0 0 D k [.ref hm, .int (iZ x)] [(hm, .inr (12, [.ref Ma, .ref Mn, .int (iZ Mst), .long Mtp, .long Mbt, .ref Ms, .ref My, .ref Mt, .ref Mp, .ref Mx, .int (iZ Mtd), .int (iZ Msz), .int (iZ Mtk), .int (iZ Mfr), .int (iZ Men), .int (iZ Mva), .int (iZ Mfk), .int (iZ Mfp), .int (iZ Mfs), .int (iZ Mse), .int (iZ Mlt), .ref Mo, .int (iZ Mdp), .int (iZ Mct), .ref Mk, .ref Ml, .ref Mb, .ref Mh, .ref Mc, .int (iZ Mdr), .int (iZ Mrs), .ref Mz, .ref Mr, .ref Mq, .int (iZ Mit), .int (iZ Mmk)]))] (fun u => some (.int (iZ u.1.1))) (fun u => ((x : Int) ≥ 1000000 ∧ u.1.1 = -1 ∧ u.1.2 = 6) ∨ ((x : Int) < 1000000 ∧ u.1.1 = x ∧ u.1.2 = 0)) (fun u => [(hm, .inr (12, [.ref Ma, .ref Mn, .int (iZ u.1.2), .long Mtp, .long Mbt, .ref Ms, .ref My, .ref Mt, .ref Mp, .ref Mx, .int (iZ Mtd), .int (iZ Msz), .int (iZ Mtk), .int (iZ Mfr), .int (iZ Men), .int (iZ Mva), .int (iZ Mfk), .int (iZ Mfp), .int (iZ Mfs), .int (iZ Mse), .int (iZ Mlt), .ref Mo, .int (iZ Mdp), .int (iZ Mct), .ref Mk, .ref Ml, .ref Mb, .ref Mh, .ref Mc, .int (iZ Mdr), .int (iZ Mrs), .ref Mz, .ref Mr, .ref Mq, .int (iZ Mit), .int (iZ Mmk)]))]) := by
  refine MW (by decide) (Nat.le_of_ble_eq_true rfl) (fun p e s m below meth c ls A hx hb hml hr hlocks hin hts hown hKK hP hD hS hA hl => ?_)
  have hK := hKK.1
  have hl : lv_has ls 2 [(0, .ref hm), (1, .int (iZ x))] := hl
  refine lv_iload_n hx hb dX12_orNever_0 rfl (lv_at hl 1 rfl) ?_
  refine lv_ldc (own := RX12) (v := 1000000) hx hb hown (hts _ qk_X12_88) dX12_orNever_1 ?_
  refine W.eq (g2 := F0 m 3 ls [.int (iZ 1000000), .int (iZ x)]) rfl ?_
  refine lv_icmp_lt (tgt := 15) hx hb dX12_orNever_3 rfl (fun c_1 => ?_) (fun c_1 => ?_)
  ·
    have c_1 := (zlt (x := iZ x) (y := iZ 1000000) rfl rfl ⟨by omega, by omega⟩ wn_1000000).mp c_1
    refine lv_aload_n hx hb dX12_orNever_15 rfl (lv_at hl 0 rfl) ?_
    refine lv_iload_n hx hb dX12_orNever_16 rfl (lv_at hl 1 rfl) ?_
    refine CWV (As := [.int (iZ x)]) (rest := []) (wc := _) (wr := []) hx hb hml hown hts hKK hP hD hS hA (m_gives l D k hm Ma Mn Ms My Mt Mp Mx Mo Mk Ml Mb Mh Mc Mz Mr Mq Mst Mtd Msz Mtk Mfr Men Mva Mfk Mfp Mfs Mse Mlt Mdp Mct Mdr Mrs Mit Mmk Mtp Mbt x) ci_X12_gives qm_X12_85 ⟨Nat.le_of_ble_eq_true rfl, Nat.le_of_ble_eq_true rfl⟩ ⟨Nat.le_of_ble_eq_true rfl, Nat.le_of_ble_eq_true rfl⟩ [0] [] rfl rfl rfl rfl rfl (dj rfl) 0 rfl rfl rfl hl.1 rfl (Nat.le_of_ble_eq_true rfl) dX12_orNever_17 (fun u_2 H locs hφ hP hD hS => ?_)
    refine W.eq (g2 := F0 m 20 ls [.int (iZ x)]) rfl ?_
    exact EWi hx hb hr hlocks hS ((x, 0), 0, (), ()) rfl (show ((x : Int) ≥ 1000000 ∧ x = -1 ∧ 0 = 6) ∨ ((x : Int) < 1000000 ∧ x = x ∧ 0 = 0) from (by omega)) (hP.sub [0] rfl) (hD.sub [0] rfl rfl) dX12_orNever_20
  ·
    have c_1 := mt (zlt (x := iZ x) (y := iZ 1000000) rfl rfl ⟨by omega, by omega⟩ wn_1000000).mpr c_1
    refine lv_aload_n hx hb dX12_orNever_6 rfl (lv_at hl 0 rfl) ?_
    refine lv_bipush (v := iZ 6) hx hb dX12_orNever_7 bip_6 ?_
    refine CWV (As := [.int (iZ 6)]) (rest := []) (wc := _) (wr := []) hx hb hml hown hts hKK hP hD hS hA (m_refuse l D k hm Ma Mn Ms My Mt Mp Mx Mo Mk Ml Mb Mh Mc Mz Mr Mq Mst Mtd Msz Mtk Mfr Men Mva Mfk Mfp Mfs Mse Mlt Mdp Mct Mdr Mrs Mit Mmk Mtp Mbt 6) ci_X12_refuse qm_X12_81 ⟨Nat.le_of_ble_eq_true rfl, Nat.le_of_ble_eq_true rfl⟩ ⟨Nat.le_of_ble_eq_true rfl, Nat.le_of_ble_eq_true rfl⟩ [0] [] rfl rfl rfl rfl rfl (dj rfl) 0 rfl rfl rfl hl.1 rfl (Nat.le_of_ble_eq_true rfl) dX12_orNever_9 (fun u_3 H locs hφ hP hD hS => ?_)
    refine W.eq (g2 := F0 m 12 ls [.int (iZ (-1))]) rfl ?_
    refine lv_goto (tgt := 20) hx hb dX12_orNever_12 rfl ?_
    exact EWi hx hb hr hlocks hS (((-1), 6), 0, (), ()) rfl (show ((x : Int) ≥ 1000000 ∧ (-1) = -1 ∧ 6 = 6) ∨ ((x : Int) < 1000000 ∧ (-1) = x ∧ 6 = 0) from (by omega)) (hP.sub [0] rfl) (hD.sub [0] rfl rfl) dX12_orNever_20
set_option maxHeartbeats 4000000 in
set_option maxRecDepth 100000 in
theorem q_blind (l : Launch) (D : va_G) (k : Nat → ClassId) (hm : Nat) (Ma : Nat) (Mn : Nat) (Ms : Nat) (My : Nat) (Mt : Nat) (Mp : Nat) (Mx : Nat) (Mo : Nat) (Mk : Nat) (Ml : Nat) (Mb : Nat) (Mh : Nat) (Mc : Nat) (Mz : Nat) (Mr : Nat) (Mq : Nat) (Mst : Int) (Mtd : Int) (Msz : Int) (Mtk : Int) (Mfr : Int) (Men : Int) (Mva : Int) (Mfk : Int) (Mfp : Int) (Mfs : Int) (Mse : Int) (Mlt : Int) (Mdp : Int) (Mct : Int) (Mdr : Int) (Mrs : Int) (Mit : Int) (Mmk : Int) (Mtp : Int64) (Mbt : Int64) (Af : Nat → Int32) (x1 : Int) (hM : M0 Af) (h9x1 : -2147483648 ≤ x1 ∧ x1 < 2147483648) : WD (σ := ((Int × Int) × (Int64) × (Unit) × (Unit))) l yX12_blind cX12_blind 6 (some .int) 6 0 0 D k [.ref hm, .int (iZ x1)] [(hm, .inr (12, [.ref Ma, .ref Mn, .int (iZ Mst), .long Mtp, .long Mbt, .ref Ms, .ref My, .ref Mt, .ref Mp, .ref Mx, .int (iZ Mtd), .int (iZ Msz), .int (iZ Mtk), .int (iZ Mfr), .int (iZ Men), .int (iZ Mva), .int (iZ Mfk), .int (iZ Mfp), .int (iZ Mfs), .int (iZ Mse), .int (iZ Mlt), .ref Mo, .int (iZ Mdp), .int (iZ Mct), .ref Mk, .ref Ml, .ref Mb, .ref Mh, .ref Mc, .int (iZ Mdr), .int (iZ Mrs), .ref Mz, .ref Mr, .ref Mq, .int (iZ Mit), .int (iZ Mmk)])), (Ma, .inl (k 1, 5340, .inl Af))] (fun u => some (.int (iZ u.1.1))) (fun u => (((0 ≤ x1 ∧ x1 < (gz Af 0))) ∧ isBl (arF (sh Af 10) (sh Af 46) (gz Af 1)) (gz Af 0) x1 u.1.1) ∨ (¬ ((0 ≤ x1 ∧ x1 < (gz Af 0))) ∧ (u.1.1 : Int) = -1)) (fun u => [(hm, .inr (12, [.ref Ma, .ref Mn, .int (iZ u.1.2), .long Mtp, .long Mbt, .ref Ms, .ref My, .ref Mt, .ref Mp, .ref Mx, .int (iZ Mtd), .int (iZ Msz), .int (iZ Mtk), .int (iZ Mfr), .int (iZ Men), .int (iZ Mva), .int (iZ Mfk), .int (iZ Mfp), .int (iZ Mfs), .int (iZ Mse), .int (iZ Mlt), .ref Mo, .int (iZ Mdp), .int (iZ Mct), .ref Mk, .ref Ml, .ref Mb, .ref Mh, .ref Mc, .int (iZ Mdr), .int (iZ Mrs), .ref Mz, .ref Mr, .ref Mq, .int (iZ Mit), .int (iZ Mmk)])), (Ma, .inl (k 1, 5340, .inl Af))]) := by
  refine MW (by decide) (Nat.le_of_ble_eq_true rfl) (fun p e s m below meth c ls A hx hb hml hr hlocks hin hts hown hKK hP hD hS hA hl => ?_)
  have hK := hKK.1
  have hl : lv_has ls 6 [(0, .ref hm), (1, .int (iZ x1))] := hl
  obtain ⟨m0, m1, m3, m4, m5, mF, mO, mS⟩ := id hM
  refine lv_aload_n hx hb dX12_blind_0 rfl (lv_at hl 0 rfl) ?_
  refine lv_iload_n hx hb dX12_blind_1 rfl (lv_at hl 1 rfl) ?_
  refine CPV (As := [.int (iZ x1)]) (rest := []) hx hb hml hown hts hKK hP (m_isRock l D k ([.ref Ma, .ref Mn, .int (iZ Mst), .long Mtp, .long Mbt, .ref Ms, .ref My, .ref Mt, .ref Mp, .ref Mx, .int (iZ Mtd), .int (iZ Msz), .int (iZ Mtk), .int (iZ Mfr), .int (iZ Men), .int (iZ Mva), .int (iZ Mfk), .int (iZ Mfp), .int (iZ Mfs), .int (iZ Mse), .int (iZ Mlt), .ref Mo, .int (iZ Mdp), .int (iZ Mct), .ref Mk, .ref Ml, .ref Mb, .ref Mh, .ref Mc, .int (iZ Mdr), .int (iZ Mrs), .ref Mz, .ref Mr, .ref Mq, .int (iZ Mit), .int (iZ Mmk)]) hm Ma Af x1 rfl hM ⟨by omega, by omega⟩) ci_X12_isRock qm_X12_243 ⟨Nat.le_of_ble_eq_true rfl, Nat.le_of_ble_eq_true rfl⟩ ⟨Nat.le_of_ble_eq_true rfl, Nat.le_of_ble_eq_true rfl⟩ 0 rfl rfl rfl hl.1 rfl (Nat.le_of_ble_eq_true rfl) dX12_blind_2 (fun z_1 hz_1 => ?_)
  rcases hz_1 with ⟨qz_1, hz_1⟩ | ⟨qz_1, hz_1⟩
  ·
    subst qz_1
    refine lv_if_ne (tgt := 14) hx hb dX12_blind_5 rfl (fun _ => ?_) (fun c => absurd c (by decide))
    refine lv_iconst (v := iZ 0) hx hb dX12_blind_14 rfl ?_
    refine lv_istore_n (lv' := [(2, .int (iZ 0)), (0, .ref hm), (1, .int (iZ x1))]) hx hb dX12_blind_15 rfl hl (bl rfl) rfl (fun ls hl => ?_)
    refine lv_iconst (v := iZ 0) hx hb dX12_blind_16 rfl ?_
    refine lv_istore_n (lv' := [(3, .int (iZ 0)), (2, .int (iZ 0)), (0, .ref hm), (1, .int (iZ x1))]) hx hb dX12_blind_17 rfl hl (bl rfl) rfl (fun ls hl => ?_)
    have HL18 : ∀ (fu : Nat) (v2_18 : Int) (v3_18 : Int) (H : Heap) (locs : List Loc) (ls : Array Slot), ((400) + 2 - v3_18) < (fu : Int) → ((0 ≤ v3_18 ∧ v3_18 ≤ (400) + 1)) → (0 ≤ v2_18 ∧ v2_18 ≤ v3_18) → (isBq (arF (sh Af 10) (sh Af 46) (gz Af 1)) (gz Af 0) x1 v2_18 v3_18) → va_P D vwCl [(hm, .inr (12, [.ref Ma, .ref Mn, .int (iZ Mst), .long Mtp, .long Mbt, .ref Ms, .ref My, .ref Mt, .ref Mp, .ref Mx, .int (iZ Mtd), .int (iZ Msz), .int (iZ Mtk), .int (iZ Mfr), .int (iZ Men), .int (iZ Mva), .int (iZ Mfk), .int (iZ Mfp), .int (iZ Mfs), .int (iZ Mse), .int (iZ Mlt), .ref Mo, .int (iZ Mdp), .int (iZ Mct), .ref Mk, .ref Ml, .ref Mb, .ref Mh, .ref Mc, .int (iZ Mdr), .int (iZ Mrs), .ref Mz, .ref Mr, .ref Mq, .int (iZ Mit), .int (iZ Mmk)])), (Ma, .inl (k 1, 5340, .inl Af))] H → va_D A [(hm, .inr (12, [.ref Ma, .ref Mn, .int (iZ Mst), .long Mtp, .long Mbt, .ref Ms, .ref My, .ref Mt, .ref Mp, .ref Mx, .int (iZ Mtd), .int (iZ Msz), .int (iZ Mtk), .int (iZ Mfr), .int (iZ Men), .int (iZ Mva), .int (iZ Mfk), .int (iZ Mfp), .int (iZ Mfs), .int (iZ Mse), .int (iZ Mlt), .ref Mo, .int (iZ Mdp), .int (iZ Mct), .ref Mk, .ref Ml, .ref Mb, .ref Mh, .ref Mc, .int (iZ Mdr), .int (iZ Mrs), .ref Mz, .ref Mr, .ref Mq, .int (iZ Mit), .int (iZ Mmk)])), (Ma, .inl (k 1, 5340, .inl Af))] → va_S A s.heap H locs → lv_has ls 6 [(3, .int (iZ v3_18)), (2, .int (iZ v2_18)), (0, .ref hm), (1, .int (iZ x1))] → W p l e (rj 6 0 0) s m [.ref hm, .int (iZ x1)].toArray below meth c H locs 0 0 (MQ below (QW (σ := ((Int × Int) × (Int64) × (Unit) × (Unit))) (fun u => some (.int (iZ u.1.1))) (fun u => (((0 ≤ x1 ∧ x1 < (gz Af 0))) ∧ isBl (arF (sh Af 10) (sh Af 46) (gz Af 1)) (gz Af 0) x1 u.1.1) ∨ (¬ ((0 ≤ x1 ∧ x1 < (gz Af 0))) ∧ (u.1.1 : Int) = -1)) (fun u => [(hm, .inr (12, [.ref Ma, .ref Mn, .int (iZ u.1.2), .long Mtp, .long Mbt, .ref Ms, .ref My, .ref Mt, .ref Mp, .ref Mx, .int (iZ Mtd), .int (iZ Msz), .int (iZ Mtk), .int (iZ Mfr), .int (iZ Men), .int (iZ Mva), .int (iZ Mfk), .int (iZ Mfp), .int (iZ Mfs), .int (iZ Mse), .int (iZ Mlt), .ref Mo, .int (iZ Mdp), .int (iZ Mct), .ref Mk, .ref Ml, .ref Mb, .ref Mh, .ref Mc, .int (iZ Mdr), .int (iZ Mrs), .ref Mz, .ref Mr, .ref Mq, .int (iZ Mit), .int (iZ Mmk)])), (Ma, .inl (k 1, 5340, .inl Af))]) D A) [.ref hm, .int (iZ x1)].toArray s 0 0 A) (F0 m 18 ls []) := by
      intro fu
      induction fu with
      | zero => intro v2_18 v3_18 H locs ls hμ18 hi18 hf0_18 hbq hP hD hS hl; exact absurd hμ18 (by omega)
      | succ fu ih18 =>
        intro v2_18 v3_18 H locs ls hμ18 hi18 hf0_18 hbq hP hD hS hl
        refine lv_iload_n hx hb dX12_blind_18 rfl (lv_at hl 0 rfl) ?_
        refine lv_sipush (v := iZ 400) hx hb dX12_blind_19 sip_400 ?_
        refine lv_icmp_gt (tgt := 97) hx hb dX12_blind_22 rfl (fun c_3 => ?_) (fun c_3 => ?_)
        ·
          have c_3 := (zlt (x := iZ 400) (y := iZ v3_18) rfl rfl wn_400 ⟨by omega, by omega⟩).mp c_3
          refine lv_aload_n hx hb dX12_blind_97 rfl (lv_at hl 2 rfl) ?_
          refine lv_iload_n hx hb dX12_blind_98 rfl (lv_at hl 1 rfl) ?_
          refine CWV (As := [.int (iZ v2_18)]) (rest := []) (wc := _) (wr := [(Ma, .inl (k 1, 5340, .inl Af))]) hx hb hml hown hts hKK hP hD hS hA (m_gives l D k hm Ma Mn Ms My Mt Mp Mx Mo Mk Ml Mb Mh Mc Mz Mr Mq Mst Mtd Msz Mtk Mfr Men Mva Mfk Mfp Mfs Mse Mlt Mdp Mct Mdr Mrs Mit Mmk Mtp Mbt v2_18) ci_X12_gives qm_X12_85 ⟨Nat.le_of_ble_eq_true rfl, Nat.le_of_ble_eq_true rfl⟩ ⟨Nat.le_of_ble_eq_true rfl, Nat.le_of_ble_eq_true rfl⟩ [0] [1] rfl rfl rfl rfl rfl (dj rfl) 0 rfl rfl rfl hl.1 rfl (Nat.le_of_ble_eq_true rfl) dX12_blind_99 (fun u_4 H locs hφ hP hD hS => ?_)
          refine W.eq (g2 := F0 m 102 ls [.int (iZ v2_18)]) rfl ?_
          exact EWi hx hb hr hlocks hS ((v2_18, 0), 0, (), ()) rfl (show (((0 ≤ x1 ∧ x1 < (gz Af 0))) ∧ isBl (arF (sh Af 10) (sh Af 46) (gz Af 1)) (gz Af 0) x1 v2_18) ∨ (¬ ((0 ≤ x1 ∧ x1 < (gz Af 0))) ∧ (v2_18 : Int) = -1) from (Or.inl ⟨by omega, isBq_e hbq (by omega)⟩)) (hP.sub [1, 0] rfl) (hD.sub [1, 0] rfl rfl) dX12_blind_102
        ·
          have c_3 := mt (zlt (x := iZ 400) (y := iZ v3_18) rfl rfl wn_400 ⟨by omega, by omega⟩).mpr c_3
          refine lv_iconst (v := iZ 0) hx hb dX12_blind_25 rfl ?_
          refine lv_istore (lv' := [(4, .int (iZ 0)), (3, .int (iZ v3_18)), (2, .int (iZ v2_18)), (0, .ref hm), (1, .int (iZ x1))]) hx hb dX12_blind_26 hl (bl rfl) rfl (fun ls hl => ?_)
          refine lv_iconst (v := iZ 0) hx hb dX12_blind_28 rfl ?_
          refine lv_istore (lv' := [(5, .int (iZ 0)), (4, .int (iZ 0)), (3, .int (iZ v3_18)), (2, .int (iZ v2_18)), (0, .ref hm), (1, .int (iZ x1))]) hx hb dX12_blind_29 hl (bl rfl) rfl (fun ls hl => ?_)
          have HL31 : ∀ (fu : Nat) (v4_31 : Int) (v5_31 : Int) (H : Heap) (locs : List Loc) (ls : Array Slot), ((gz Af 0) + 2 - v5_31) < (fu : Int) → ((0 ≤ v5_31 ∧ v5_31 ≤ (gz Af 0) + 1)) → (0 ≤ v4_31 ∧ v4_31 ≤ 1) → ((v4_31 : Int) = 0 → ∀ o : Int, 0 ≤ o → o < v5_31 → ¬ o = x1 → ∀ u : Int, 0 ≤ u → u ≤ v3_18 → ¬ arF (sh Af 10) (sh Af 46) (gz Af 1) o u x1 ≤ v3_18) → ((v4_31 : Int) = 1 → snW (arF (sh Af 10) (sh Af 46) (gz Af 1)) (gz Af 0) x1 v3_18) → (v5_31 ≤ gz Af 0) → va_P D vwCl [(hm, .inr (12, [.ref Ma, .ref Mn, .int (iZ Mst), .long Mtp, .long Mbt, .ref Ms, .ref My, .ref Mt, .ref Mp, .ref Mx, .int (iZ Mtd), .int (iZ Msz), .int (iZ Mtk), .int (iZ Mfr), .int (iZ Men), .int (iZ Mva), .int (iZ Mfk), .int (iZ Mfp), .int (iZ Mfs), .int (iZ Mse), .int (iZ Mlt), .ref Mo, .int (iZ Mdp), .int (iZ Mct), .ref Mk, .ref Ml, .ref Mb, .ref Mh, .ref Mc, .int (iZ Mdr), .int (iZ Mrs), .ref Mz, .ref Mr, .ref Mq, .int (iZ Mit), .int (iZ Mmk)])), (Ma, .inl (k 1, 5340, .inl Af))] H → va_D A [(hm, .inr (12, [.ref Ma, .ref Mn, .int (iZ Mst), .long Mtp, .long Mbt, .ref Ms, .ref My, .ref Mt, .ref Mp, .ref Mx, .int (iZ Mtd), .int (iZ Msz), .int (iZ Mtk), .int (iZ Mfr), .int (iZ Men), .int (iZ Mva), .int (iZ Mfk), .int (iZ Mfp), .int (iZ Mfs), .int (iZ Mse), .int (iZ Mlt), .ref Mo, .int (iZ Mdp), .int (iZ Mct), .ref Mk, .ref Ml, .ref Mb, .ref Mh, .ref Mc, .int (iZ Mdr), .int (iZ Mrs), .ref Mz, .ref Mr, .ref Mq, .int (iZ Mit), .int (iZ Mmk)])), (Ma, .inl (k 1, 5340, .inl Af))] → va_S A s.heap H locs → lv_has ls 6 [(5, .int (iZ v5_31)), (4, .int (iZ v4_31)), (3, .int (iZ v3_18)), (2, .int (iZ v2_18)), (0, .ref hm), (1, .int (iZ x1))] → W p l e (rj 6 0 0) s m [.ref hm, .int (iZ x1)].toArray below meth c H locs 0 0 (MQ below (QW (σ := ((Int × Int) × (Int64) × (Unit) × (Unit))) (fun u => some (.int (iZ u.1.1))) (fun u => (((0 ≤ x1 ∧ x1 < (gz Af 0))) ∧ isBl (arF (sh Af 10) (sh Af 46) (gz Af 1)) (gz Af 0) x1 u.1.1) ∨ (¬ ((0 ≤ x1 ∧ x1 < (gz Af 0))) ∧ (u.1.1 : Int) = -1)) (fun u => [(hm, .inr (12, [.ref Ma, .ref Mn, .int (iZ u.1.2), .long Mtp, .long Mbt, .ref Ms, .ref My, .ref Mt, .ref Mp, .ref Mx, .int (iZ Mtd), .int (iZ Msz), .int (iZ Mtk), .int (iZ Mfr), .int (iZ Men), .int (iZ Mva), .int (iZ Mfk), .int (iZ Mfp), .int (iZ Mfs), .int (iZ Mse), .int (iZ Mlt), .ref Mo, .int (iZ Mdp), .int (iZ Mct), .ref Mk, .ref Ml, .ref Mb, .ref Mh, .ref Mc, .int (iZ Mdr), .int (iZ Mrs), .ref Mz, .ref Mr, .ref Mq, .int (iZ Mit), .int (iZ Mmk)])), (Ma, .inl (k 1, 5340, .inl Af))]) D A) [.ref hm, .int (iZ x1)].toArray s 0 0 A) (F0 m 31 ls []) := by
            intro fu
            induction fu with
            | zero => intro v4_31 v5_31 H locs ls hμ31 hi31 hf0_31 hr1 hr2 hbn hP hD hS hl; exact absurd hμ31 (by omega)
            | succ fu ih31 =>
              intro v4_31 v5_31 H locs ls hμ31 hi31 hf0_31 hr1 hr2 hbn hP hD hS hl
              refine lv_iload hx hb dX12_blind_31 (lv_at hl 0 rfl) ?_
              refine lv_aload_n hx hb dX12_blind_33 rfl (lv_at hl 4 rfl) ?_
              refine va_get (D := D) (ci := 12) (v := .ref Ma) (C := RX12) (T := TX12) (N := 36) hx hb hts iX12 hown hK hP 0 rfl rfl 0 (bl rfl) (hts _ qf_X12_7) (fun _ h => h) rfl dX12_blind_34 ?_
              refine lv_iconst (v := iZ 0) hx hb dX12_blind_37 rfl ?_
              refine va_iald hx hb hK hP 1 1 rfl rfl (zin (e := 0) (n := 5340) ⟨by omega, by omega⟩ (bl rfl)) dX12_blind_38 ?_
              refine lv_topi (fun x_5 ex_5 => ?_)
              obtain rfl : x_5 = iZ (gz Af 0) := ex_5.trans (gz_eq ⟨by omega, by omega⟩)
              have h_6 := gz_rg Af 0
              refine lv_icmp_ge (tgt := 78) hx hb dX12_blind_39 rfl (fun c_7 => ?_) (fun c_7 => ?_)
              ·
                have c_7 := (zle (x := iZ (gz Af 0)) (y := iZ v5_31) rfl rfl (gz_rg Af 0) ⟨by omega, by omega⟩).mp c_7
                refine lv_iload_n hx hb dX12_blind_78 rfl (lv_at hl 3 rfl) ?_
                refine lv_iload hx hb dX12_blind_79 (lv_at hl 1 rfl) ?_
                refine lv_if_eq (tgt := 88) hx hb dX12_blind_81 rfl (fun c_8 => ?_) (fun c_8 => ?_)
                ·
                  have c_8 := (zeq (x := iZ v4_31) (y := iZ 0) rfl rfl ⟨by omega, by omega⟩ wn_0).mp c_8
                  refine lv_iconst (v := iZ 1) hx hb dX12_blind_88 rfl ?_
                  refine lv_iadd hx hb dX12_blind_89 ?_
                  refine lv_topi (fun x_9 ex_9 => ?_)
                  obtain rfl : x_9 = iZ (v2_18 + 1) := ex_9.trans (iZ_add v2_18 1)
                  refine lv_istore_n (lv' := [(2, .int (iZ (v2_18 + 1))), (5, .int (iZ v5_31)), (4, .int (iZ v4_31)), (3, .int (iZ v3_18)), (0, .ref hm), (1, .int (iZ x1))]) hx hb dX12_blind_90 rfl hl (bl rfl) rfl (fun ls hl => ?_)
                  refine lv_iinc (v := iZ (v3_18 + 1)) (lv' := [(3, .int (iZ (v3_18 + 1))), (2, .int (iZ (v2_18 + 1))), (5, .int (iZ v5_31)), (4, .int (iZ v4_31)), (0, .ref hm), (1, .int (iZ x1))]) hx hb dX12_blind_91 hl (k := 3) rfl (iZ_add v3_18 1) (by decide) rfl (fun ls hl => ?_)
                  refine lv_goto (tgt := 18) hx hb dX12_blind_94 rfl ?_
                  exact ih18  (v2_18 + 1) (v3_18 + 1) _ _ _ (by omega) (show (0 ≤ (v3_18 + 1) ∧ (v3_18 + 1) ≤ (400) + 1) from ⟨by omega, by omega⟩) (show 0 ≤ (v2_18 + 1) ∧ (v2_18 + 1) ≤ (v3_18 + 1) from (by omega)) (show isBq (arF (sh Af 10) (sh Af 46) (gz Af 1)) (gz Af 0) x1 (v2_18 + 1) (v3_18 + 1) from (isBq_n hbq (sn_all (fun o a b => hr1 (by omega) o a (by omega))) (by omega) (by omega))) (hP.sub [0, 1] rfl) (hD.sub [0, 1] rfl rfl) hS (lv_sub hl [0, 1, 4, 5] rfl)
                ·
                  have c_8 := mt (zeq (x := iZ v4_31) (y := iZ 0) rfl rfl ⟨by omega, by omega⟩ wn_0).mpr c_8
                  refine lv_iconst (v := iZ 0) hx hb dX12_blind_84 rfl ?_
                  refine lv_goto (tgt := 89) hx hb dX12_blind_85 rfl ?_
                  refine lv_iadd hx hb dX12_blind_89 ?_
                  refine lv_topi (fun x_10 ex_10 => ?_)
                  obtain rfl : x_10 = iZ (v2_18 + 0) := ex_10.trans (iZ_add v2_18 0)
                  refine lv_istore_n (lv' := [(2, .int (iZ (v2_18 + 0))), (5, .int (iZ v5_31)), (4, .int (iZ v4_31)), (3, .int (iZ v3_18)), (0, .ref hm), (1, .int (iZ x1))]) hx hb dX12_blind_90 rfl hl (bl rfl) rfl (fun ls hl => ?_)
                  refine lv_iinc (v := iZ (v3_18 + 1)) (lv' := [(3, .int (iZ (v3_18 + 1))), (2, .int (iZ (v2_18 + 0))), (5, .int (iZ v5_31)), (4, .int (iZ v4_31)), (0, .ref hm), (1, .int (iZ x1))]) hx hb dX12_blind_91 hl (k := 3) rfl (iZ_add v3_18 1) (by decide) rfl (fun ls hl => ?_)
                  refine lv_goto (tgt := 18) hx hb dX12_blind_94 rfl ?_
                  exact ih18  (v2_18 + 0) (v3_18 + 1) _ _ _ (by omega) (show (0 ≤ (v3_18 + 1) ∧ (v3_18 + 1) ≤ (400) + 1) from ⟨by omega, by omega⟩) (show 0 ≤ (v2_18 + 0) ∧ (v2_18 + 0) ≤ (v3_18 + 1) from (by omega)) (show isBq (arF (sh Af 10) (sh Af 46) (gz Af 1)) (gz Af 0) x1 (v2_18 + 0) (v3_18 + 1) from (isBq_y hbq (hr2 (by omega)) (by omega) ⟨by omega, by omega⟩)) (hP.sub [0, 1] rfl) (hD.sub [0, 1] rfl rfl) hS (lv_sub hl [0, 1, 4, 5] rfl)
              ·
                have c_7 := mt (zle (x := iZ (gz Af 0)) (y := iZ v5_31) rfl rfl (gz_rg Af 0) ⟨by omega, by omega⟩).mpr c_7
                refine lv_iload hx hb dX12_blind_42 (lv_at hl 1 rfl) ?_
                refine lv_if_ne (tgt := 78) hx hb dX12_blind_44 rfl (fun c_11 => ?_) (fun c_11 => ?_)
                ·
                  have c_11 := mt (zeq (x := iZ v4_31) (y := iZ 0) rfl rfl ⟨by omega, by omega⟩ wn_0).mpr c_11
                  refine lv_iload_n hx hb dX12_blind_78 rfl (lv_at hl 3 rfl) ?_
                  refine lv_iload hx hb dX12_blind_79 (lv_at hl 1 rfl) ?_
                  refine lv_if_eq (tgt := 88) hx hb dX12_blind_81 rfl (fun c_12 => ?_) (fun c_12 => ?_)
                  ·
                    have c_12 := (zeq (x := iZ v4_31) (y := iZ 0) rfl rfl ⟨by omega, by omega⟩ wn_0).mp c_12
                    refine lv_iconst (v := iZ 1) hx hb dX12_blind_88 rfl ?_
                    refine lv_iadd hx hb dX12_blind_89 ?_
                    refine lv_topi (fun x_13 ex_13 => ?_)
                    obtain rfl : x_13 = iZ (v2_18 + 1) := ex_13.trans (iZ_add v2_18 1)
                    refine lv_istore_n (lv' := [(2, .int (iZ (v2_18 + 1))), (5, .int (iZ v5_31)), (4, .int (iZ v4_31)), (3, .int (iZ v3_18)), (0, .ref hm), (1, .int (iZ x1))]) hx hb dX12_blind_90 rfl hl (bl rfl) rfl (fun ls hl => ?_)
                    refine lv_iinc (v := iZ (v3_18 + 1)) (lv' := [(3, .int (iZ (v3_18 + 1))), (2, .int (iZ (v2_18 + 1))), (5, .int (iZ v5_31)), (4, .int (iZ v4_31)), (0, .ref hm), (1, .int (iZ x1))]) hx hb dX12_blind_91 hl (k := 3) rfl (iZ_add v3_18 1) (by decide) rfl (fun ls hl => ?_)
                    refine lv_goto (tgt := 18) hx hb dX12_blind_94 rfl ?_
                    exact ih18  (v2_18 + 1) (v3_18 + 1) _ _ _ (by omega) (show (0 ≤ (v3_18 + 1) ∧ (v3_18 + 1) ≤ (400) + 1) from ⟨by omega, by omega⟩) (show 0 ≤ (v2_18 + 1) ∧ (v2_18 + 1) ≤ (v3_18 + 1) from (by omega)) (show isBq (arF (sh Af 10) (sh Af 46) (gz Af 1)) (gz Af 0) x1 (v2_18 + 1) (v3_18 + 1) from (isBq_n hbq (sn_all (fun o a b => hr1 (by omega) o a (by omega))) (by omega) (by omega))) (hP.sub [0, 1] rfl) (hD.sub [0, 1] rfl rfl) hS (lv_sub hl [0, 1, 4, 5] rfl)
                  ·
                    have c_12 := mt (zeq (x := iZ v4_31) (y := iZ 0) rfl rfl ⟨by omega, by omega⟩ wn_0).mpr c_12
                    refine lv_iconst (v := iZ 0) hx hb dX12_blind_84 rfl ?_
                    refine lv_goto (tgt := 89) hx hb dX12_blind_85 rfl ?_
                    refine lv_iadd hx hb dX12_blind_89 ?_
                    refine lv_topi (fun x_14 ex_14 => ?_)
                    obtain rfl : x_14 = iZ (v2_18 + 0) := ex_14.trans (iZ_add v2_18 0)
                    refine lv_istore_n (lv' := [(2, .int (iZ (v2_18 + 0))), (5, .int (iZ v5_31)), (4, .int (iZ v4_31)), (3, .int (iZ v3_18)), (0, .ref hm), (1, .int (iZ x1))]) hx hb dX12_blind_90 rfl hl (bl rfl) rfl (fun ls hl => ?_)
                    refine lv_iinc (v := iZ (v3_18 + 1)) (lv' := [(3, .int (iZ (v3_18 + 1))), (2, .int (iZ (v2_18 + 0))), (5, .int (iZ v5_31)), (4, .int (iZ v4_31)), (0, .ref hm), (1, .int (iZ x1))]) hx hb dX12_blind_91 hl (k := 3) rfl (iZ_add v3_18 1) (by decide) rfl (fun ls hl => ?_)
                    refine lv_goto (tgt := 18) hx hb dX12_blind_94 rfl ?_
                    exact ih18  (v2_18 + 0) (v3_18 + 1) _ _ _ (by omega) (show (0 ≤ (v3_18 + 1) ∧ (v3_18 + 1) ≤ (400) + 1) from ⟨by omega, by omega⟩) (show 0 ≤ (v2_18 + 0) ∧ (v2_18 + 0) ≤ (v3_18 + 1) from (by omega)) (show isBq (arF (sh Af 10) (sh Af 46) (gz Af 1)) (gz Af 0) x1 (v2_18 + 0) (v3_18 + 1) from (isBq_y hbq (hr2 (by omega)) (by omega) ⟨by omega, by omega⟩)) (hP.sub [0, 1] rfl) (hD.sub [0, 1] rfl rfl) hS (lv_sub hl [0, 1, 4, 5] rfl)
                ·
                  have c_11 := (zeq (x := iZ v4_31) (y := iZ 0) rfl rfl ⟨by omega, by omega⟩ wn_0).mp c_11
                  refine lv_iload hx hb dX12_blind_47 (lv_at hl 0 rfl) ?_
                  refine lv_iload_n hx hb dX12_blind_49 rfl (lv_at hl 5 rfl) ?_
                  refine lv_icmp_eq (tgt := 69) hx hb dX12_blind_50 rfl (fun c_15 => ?_) (fun c_15 => ?_)
                  ·
                    have c_15 := (zeq (x := iZ v5_31) (y := iZ x1) rfl rfl ⟨by omega, by omega⟩ ⟨by omega, by omega⟩).mp c_15
                    refine lv_iconst (v := iZ 0) hx hb dX12_blind_69 rfl ?_
                    refine lv_istore (lv' := [(4, .int (iZ 0)), (5, .int (iZ v5_31)), (3, .int (iZ v3_18)), (2, .int (iZ v2_18)), (0, .ref hm), (1, .int (iZ x1))]) hx hb dX12_blind_70 hl (bl rfl) rfl (fun ls hl => ?_)
                    refine lv_iinc (v := iZ (v5_31 + 1)) (lv' := [(5, .int (iZ (v5_31 + 1))), (4, .int (iZ 0)), (3, .int (iZ v3_18)), (2, .int (iZ v2_18)), (0, .ref hm), (1, .int (iZ x1))]) hx hb dX12_blind_72 hl (k := 1) rfl (iZ_add v5_31 1) (by decide) rfl (fun ls hl => ?_)
                    refine lv_goto (tgt := 31) hx hb dX12_blind_75 rfl ?_
                    exact ih31  0 (v5_31 + 1) _ _ _ (by omega) (show (0 ≤ (v5_31 + 1) ∧ (v5_31 + 1) ≤ (gz Af 0) + 1) from ⟨by omega, by omega⟩) (show 0 ≤ 0 ∧ 0 ≤ 1 from (by omega)) (show (0 : Int) = 0 → ∀ o : Int, 0 ≤ o → o < (v5_31 + 1) → ¬ o = x1 → ∀ u : Int, 0 ≤ u → u ≤ v3_18 → ¬ arF (sh Af 10) (sh Af 46) (gz Af 1) o u x1 ≤ v3_18 from (fun _ o a b c => by rcases Int.lt_or_eq_of_le (show o ≤ v5_31 by omega) with q | q; exact hr1 (by omega) o a q c; rw [q] at c ⊢; exact absurd (by omega) c)) (show (0 : Int) = 1 → snW (arF (sh Af 10) (sh Af 46) (gz Af 1)) (gz Af 0) x1 v3_18 from (fun h9 => absurd h9 (by omega))) (show (v5_31 + 1) ≤ gz Af 0 from (by omega)) (hP.sub [0, 1] rfl) (hD.sub [0, 1] rfl rfl) hS (lv_sub hl [0, 1, 2, 3, 4, 5] rfl)
                  ·
                    have c_15 := mt (zeq (x := iZ v5_31) (y := iZ x1) rfl rfl ⟨by omega, by omega⟩ ⟨by omega, by omega⟩).mpr c_15
                    refine lv_aload_n hx hb dX12_blind_53 rfl (lv_at hl 4 rfl) ?_
                    refine lv_iload_n hx hb dX12_blind_54 rfl (lv_at hl 5 rfl) ?_
                    refine lv_iload hx hb dX12_blind_55 (lv_at hl 0 rfl) ?_
                    refine lv_iload_n hx hb dX12_blind_57 rfl (lv_at hl 2 rfl) ?_
                    refine CPV (As := [.int (iZ x1), .int (iZ v5_31), .int (iZ v3_18)]) (rest := []) hx hb hml hown hts hKK hP (m_seen l D k ([.ref Ma, .ref Mn, .int (iZ Mst), .long Mtp, .long Mbt, .ref Ms, .ref My, .ref Mt, .ref Mp, .ref Mx, .int (iZ Mtd), .int (iZ Msz), .int (iZ Mtk), .int (iZ Mfr), .int (iZ Men), .int (iZ Mva), .int (iZ Mfk), .int (iZ Mfp), .int (iZ Mfs), .int (iZ Mse), .int (iZ Mlt), .ref Mo, .int (iZ Mdp), .int (iZ Mct), .ref Mk, .ref Ml, .ref Mb, .ref Mh, .ref Mc, .int (iZ Mdr), .int (iZ Mrs), .ref Mz, .ref Mr, .ref Mq, .int (iZ Mit), .int (iZ Mmk)]) hm Ma Af x1 v5_31 v3_18 rfl hM ⟨by omega, by omega⟩ ⟨by omega, by omega⟩ ⟨by omega, by omega⟩) ci_X12_seenBy qm_X12_287 ⟨Nat.le_of_ble_eq_true rfl, Nat.le_of_ble_eq_true rfl⟩ ⟨Nat.le_of_ble_eq_true rfl, Nat.le_of_ble_eq_true rfl⟩ 0 rfl rfl rfl hl.1 rfl (Nat.le_of_ble_eq_true rfl) dX12_blind_58 (fun z_16 hz_16 => ?_)
                    obtain ⟨ez_16, az_16⟩ := hz_16
                    refine lv_iconst (v := iZ (-1)) hx hb dX12_blind_61 rfl ?_
                    refine lv_icmp_eq (tgt := 69) hx hb dX12_blind_62 rfl (fun c_17 => ?_) (fun c_17 => ?_)
                    ·
                      have c_17 := (zeq (x := iZ z_16) (y := iZ (-1)) rfl rfl ⟨by omega, by omega⟩ wn_m1).mp c_17
                      refine lv_iconst (v := iZ 0) hx hb dX12_blind_69 rfl ?_
                      refine lv_istore (lv' := [(4, .int (iZ 0)), (5, .int (iZ v5_31)), (3, .int (iZ v3_18)), (2, .int (iZ v2_18)), (0, .ref hm), (1, .int (iZ x1))]) hx hb dX12_blind_70 hl (bl rfl) rfl (fun ls hl => ?_)
                      refine lv_iinc (v := iZ (v5_31 + 1)) (lv' := [(5, .int (iZ (v5_31 + 1))), (4, .int (iZ 0)), (3, .int (iZ v3_18)), (2, .int (iZ v2_18)), (0, .ref hm), (1, .int (iZ x1))]) hx hb dX12_blind_72 hl (k := 1) rfl (iZ_add v5_31 1) (by decide) rfl (fun ls hl => ?_)
                      refine lv_goto (tgt := 31) hx hb dX12_blind_75 rfl ?_
                      exact ih31  0 (v5_31 + 1) _ _ _ (by omega) (show (0 ≤ (v5_31 + 1) ∧ (v5_31 + 1) ≤ (gz Af 0) + 1) from ⟨by omega, by omega⟩) (show 0 ≤ 0 ∧ 0 ≤ 1 from (by omega)) (show (0 : Int) = 0 → ∀ o : Int, 0 ≤ o → o < (v5_31 + 1) → ¬ o = x1 → ∀ u : Int, 0 ≤ u → u ≤ v3_18 → ¬ arF (sh Af 10) (sh Af 46) (gz Af 1) o u x1 ≤ v3_18 from (fun _ o a b c => by rcases Int.lt_or_eq_of_le (show o ≤ v5_31 by omega) with q | q; exact hr1 (by omega) o a q c; rw [q] at c ⊢; exact sn_n (by omega) ez_16 (by omega))) (show (0 : Int) = 1 → snW (arF (sh Af 10) (sh Af 46) (gz Af 1)) (gz Af 0) x1 v3_18 from (fun h9 => absurd h9 (by omega))) (show (v5_31 + 1) ≤ gz Af 0 from (by omega)) (hP.sub [0, 1] rfl) (hD.sub [0, 1] rfl rfl) hS (lv_sub hl [0, 1, 2, 3, 4, 5] rfl)
                    ·
                      have c_17 := mt (zeq (x := iZ z_16) (y := iZ (-1)) rfl rfl ⟨by omega, by omega⟩ wn_m1).mpr c_17
                      refine lv_iconst (v := iZ 1) hx hb dX12_blind_65 rfl ?_
                      refine lv_goto (tgt := 70) hx hb dX12_blind_66 rfl ?_
                      refine lv_istore (lv' := [(4, .int (iZ 1)), (5, .int (iZ v5_31)), (3, .int (iZ v3_18)), (2, .int (iZ v2_18)), (0, .ref hm), (1, .int (iZ x1))]) hx hb dX12_blind_70 hl (bl rfl) rfl (fun ls hl => ?_)
                      refine lv_iinc (v := iZ (v5_31 + 1)) (lv' := [(5, .int (iZ (v5_31 + 1))), (4, .int (iZ 1)), (3, .int (iZ v3_18)), (2, .int (iZ v2_18)), (0, .ref hm), (1, .int (iZ x1))]) hx hb dX12_blind_72 hl (k := 1) rfl (iZ_add v5_31 1) (by decide) rfl (fun ls hl => ?_)
                      refine lv_goto (tgt := 31) hx hb dX12_blind_75 rfl ?_
                      exact ih31  1 (v5_31 + 1) _ _ _ (by omega) (show (0 ≤ (v5_31 + 1) ∧ (v5_31 + 1) ≤ (gz Af 0) + 1) from ⟨by omega, by omega⟩) (show 0 ≤ 1 ∧ 1 ≤ 1 from (by omega)) (show (1 : Int) = 0 → ∀ o : Int, 0 ≤ o → o < (v5_31 + 1) → ¬ o = x1 → ∀ u : Int, 0 ≤ u → u ≤ v3_18 → ¬ arF (sh Af 10) (sh Af 46) (gz Af 1) o u x1 ≤ v3_18 from (fun h9 => absurd h9 (by omega))) (show (1 : Int) = 1 → snW (arF (sh Af 10) (sh Af 46) (gz Af 1)) (gz Af 0) x1 v3_18 from (fun _ => sn_y (by omega) ⟨by omega, by omega, by omega⟩ ez_16 (by omega))) (show (v5_31 + 1) ≤ gz Af 0 from (by omega)) (hP.sub [0, 1] rfl) (hD.sub [0, 1] rfl rfl) hS (lv_sub hl [0, 1, 2, 3, 4, 5] rfl)
          exact HL31 9 0 0 _ _ _ (by omega) (show (0 ≤ 0 ∧ 0 ≤ (gz Af 0) + 1) from ⟨by omega, by omega⟩) (show 0 ≤ 0 ∧ 0 ≤ 1 from (by omega)) (show (0 : Int) = 0 → ∀ o : Int, 0 ≤ o → o < 0 → ¬ o = x1 → ∀ u : Int, 0 ≤ u → u ≤ v3_18 → ¬ arF (sh Af 10) (sh Af 46) (gz Af 1) o u x1 ≤ v3_18 from (fun _ o a b => absurd a (by omega))) (show (0 : Int) = 1 → snW (arF (sh Af 10) (sh Af 46) (gz Af 1)) (gz Af 0) x1 v3_18 from (fun h9 => absurd h9 (by omega))) (show 0 ≤ gz Af 0 from (by omega)) (hP.sub [0, 1] rfl) (hD.sub [0, 1] rfl rfl) hS (lv_sub hl [0, 1, 2, 3, 4, 5] rfl)
    exact HL18 404 0 0 _ _ _ (by omega) (show (0 ≤ 0 ∧ 0 ≤ (400) + 1) from ⟨by omega, by omega⟩) (show 0 ≤ 0 ∧ 0 ≤ 0 from (by omega)) (show isBq (arF (sh Af 10) (sh Af 46) (gz Af 1)) (gz Af 0) x1 0 0 from isBq_0) (hP.sub [0, 1] rfl) (hD.sub [0, 1] rfl rfl) hS (lv_sub hl [0, 1, 2, 3] rfl)
  ·
    subst qz_1
    refine lv_if_ne (tgt := 14) hx hb dX12_blind_5 rfl (fun c => absurd (by decide) c) (fun _ => ?_)
    refine lv_aload_n hx hb dX12_blind_8 rfl (lv_at hl 0 rfl) ?_
    refine lv_iconst (v := iZ 1) hx hb dX12_blind_9 rfl ?_
    refine CWV (As := [.int (iZ 1)]) (rest := []) (wc := _) (wr := [(Ma, .inl (k 1, 5340, .inl Af))]) hx hb hml hown hts hKK hP hD hS hA (m_refuse l D k hm Ma Mn Ms My Mt Mp Mx Mo Mk Ml Mb Mh Mc Mz Mr Mq Mst Mtd Msz Mtk Mfr Men Mva Mfk Mfp Mfs Mse Mlt Mdp Mct Mdr Mrs Mit Mmk Mtp Mbt 1) ci_X12_refuse qm_X12_81 ⟨Nat.le_of_ble_eq_true rfl, Nat.le_of_ble_eq_true rfl⟩ ⟨Nat.le_of_ble_eq_true rfl, Nat.le_of_ble_eq_true rfl⟩ [0] [1] rfl rfl rfl rfl rfl (dj rfl) 0 rfl rfl rfl hl.1 rfl (Nat.le_of_ble_eq_true rfl) dX12_blind_10 (fun u_19 H locs hφ hP hD hS => ?_)
    refine W.eq (g2 := F0 m 13 ls [.int (iZ (-1))]) rfl ?_
    exact EWi hx hb hr hlocks hS (((-1), 1), 0, (), ()) rfl (show (((0 ≤ x1 ∧ x1 < (gz Af 0))) ∧ isBl (arF (sh Af 10) (sh Af 46) (gz Af 1)) (gz Af 0) x1 (-1)) ∨ (¬ ((0 ≤ x1 ∧ x1 < (gz Af 0))) ∧ ((-1) : Int) = -1) from (Or.inr ⟨by omega, rfl⟩)) (hP.sub [1, 0] rfl) (hD.sub [1, 0] rfl rfl) dX12_blind_13
set_option maxHeartbeats 4000000 in
set_option maxRecDepth 100000 in
theorem q_answered (l : Launch) (D : va_G) (k : Nat → ClassId) (hm : Nat) (Ma : Nat) (Mn : Nat) (Ms : Nat) (My : Nat) (Mt : Nat) (Mp : Nat) (Mx : Nat) (Mo : Nat) (Mk : Nat) (Ml : Nat) (Mb : Nat) (Mh : Nat) (Mc : Nat) (Mz : Nat) (Mr : Nat) (Mq : Nat) (Mst : Int) (Mtd : Int) (Msz : Int) (Mtk : Int) (Mfr : Int) (Men : Int) (Mva : Int) (Mfk : Int) (Mfp : Int) (Mfs : Int) (Mse : Int) (Mlt : Int) (Mdp : Int) (Mct : Int) (Mdr : Int) (Mrs : Int) (Mit : Int) (Mmk : Int) (Mtp : Int64) (Mbt : Int64) (Af : Nat → Int32) (x1 : Int) (x2 : Int) (x3 : Int) (hM : M0 Af) (h9x1 : -2147483648 ≤ x1 ∧ x1 < 2147483648) (h9x2 : -2147483648 ≤ x2 ∧ x2 < 2147483648) (h9x3 : -2147483648 ≤ x3 ∧ x3 < 2147483648) : WD (σ := ((Int × Int) × (Int64) × (Unit) × (Unit))) l yX12_answered cX12_answered 5 (some .int) 6 0 0 D k [.ref hm, .int (iZ x1), .int (iZ x2), .int (iZ x3)] [(hm, .inr (12, [.ref Ma, .ref Mn, .int (iZ Mst), .long Mtp, .long Mbt, .ref Ms, .ref My, .ref Mt, .ref Mp, .ref Mx, .int (iZ Mtd), .int (iZ Msz), .int (iZ Mtk), .int (iZ Mfr), .int (iZ Men), .int (iZ Mva), .int (iZ Mfk), .int (iZ Mfp), .int (iZ Mfs), .int (iZ Mse), .int (iZ Mlt), .ref Mo, .int (iZ Mdp), .int (iZ Mct), .ref Mk, .ref Ml, .ref Mb, .ref Mh, .ref Mc, .int (iZ Mdr), .int (iZ Mrs), .ref Mz, .ref Mr, .ref Mq, .int (iZ Mit), .int (iZ Mmk)])), (Ma, .inl (k 1, 5340, .inl Af))] (fun u => some (.int (iZ u.1.1))) (fun u => (((0 ≤ x1 ∧ x1 < (gz Af 0)) ∧ (0 ≤ x2 ∧ x2 < (gz Af 0)) ∧ ¬ x1 = x2 ∧ (0 ≤ x3 ∧ x3 ≤ 500)) ∧ isAw (fun u => ecF (sh Af 10) (sh Af 46) (gz Af 1) x1 u x2) (min x3 400) x3 u.1.1) ∨ (¬ ((0 ≤ x1 ∧ x1 < (gz Af 0)) ∧ (0 ≤ x2 ∧ x2 < (gz Af 0)) ∧ ¬ x1 = x2 ∧ (0 ≤ x3 ∧ x3 ≤ 500)) ∧ (u.1.1 : Int) = -1)) (fun u => [(hm, .inr (12, [.ref Ma, .ref Mn, .int (iZ u.1.2), .long Mtp, .long Mbt, .ref Ms, .ref My, .ref Mt, .ref Mp, .ref Mx, .int (iZ Mtd), .int (iZ Msz), .int (iZ Mtk), .int (iZ Mfr), .int (iZ Men), .int (iZ Mva), .int (iZ Mfk), .int (iZ Mfp), .int (iZ Mfs), .int (iZ Mse), .int (iZ Mlt), .ref Mo, .int (iZ Mdp), .int (iZ Mct), .ref Mk, .ref Ml, .ref Mb, .ref Mh, .ref Mc, .int (iZ Mdr), .int (iZ Mrs), .ref Mz, .ref Mr, .ref Mq, .int (iZ Mit), .int (iZ Mmk)])), (Ma, .inl (k 1, 5340, .inl Af))]) := by
  refine MW (by decide) (Nat.le_of_ble_eq_true rfl) (fun p e s m below meth c ls A hx hb hml hr hlocks hin hts hown hKK hP hD hS hA hl => ?_)
  have hK := hKK.1
  have hl : lv_has ls 5 [(0, .ref hm), (1, .int (iZ x1)), (2, .int (iZ x2)), (3, .int (iZ x3))] := hl
  obtain ⟨m0, m1, m3, m4, m5, mF, mO, mS⟩ := id hM
  refine lv_aload_n hx hb dX12_answered_0 rfl (lv_at hl 0 rfl) ?_
  refine lv_iload_n hx hb dX12_answered_1 rfl (lv_at hl 1 rfl) ?_
  refine lv_iload_n hx hb dX12_answered_2 rfl (lv_at hl 2 rfl) ?_
  refine CPV (As := [.int (iZ x1), .int (iZ x2)]) (rest := []) hx hb hml hown hts hKK hP (m_areTwo l D k ([.ref Ma, .ref Mn, .int (iZ Mst), .long Mtp, .long Mbt, .ref Ms, .ref My, .ref Mt, .ref Mp, .ref Mx, .int (iZ Mtd), .int (iZ Msz), .int (iZ Mtk), .int (iZ Mfr), .int (iZ Men), .int (iZ Mva), .int (iZ Mfk), .int (iZ Mfp), .int (iZ Mfs), .int (iZ Mse), .int (iZ Mlt), .ref Mo, .int (iZ Mdp), .int (iZ Mct), .ref Mk, .ref Ml, .ref Mb, .ref Mh, .ref Mc, .int (iZ Mdr), .int (iZ Mrs), .ref Mz, .ref Mr, .ref Mq, .int (iZ Mit), .int (iZ Mmk)]) hm Ma Af x1 x2 rfl hM ⟨by omega, by omega⟩ ⟨by omega, by omega⟩) ci_X12_areTwo qm_X12_265 ⟨Nat.le_of_ble_eq_true rfl, Nat.le_of_ble_eq_true rfl⟩ ⟨Nat.le_of_ble_eq_true rfl, Nat.le_of_ble_eq_true rfl⟩ 0 rfl rfl rfl hl.1 rfl (Nat.le_of_ble_eq_true rfl) dX12_answered_3 (fun z_1 hz_1 => ?_)
  rcases hz_1 with ⟨qz_1, hz_1⟩ | ⟨qz_1, hz_1⟩
  ·
    subst qz_1
    refine lv_if_eq (tgt := 16) hx hb dX12_answered_6 rfl (fun c => absurd c (by decide)) (fun _ => ?_)
    refine lv_iload_n hx hb dX12_answered_9 rfl (lv_at hl 3 rfl) ?_
    refine CPS (As := [.int (iZ x3)]) (rest := []) hx hb hml hown hts hKK (hP.sub (ws' := []) [] rfl) (m_isAsked l D k x3 ⟨by omega, by omega⟩) ci_X12_isAsked qm_X12_258 ⟨Nat.le_of_ble_eq_true rfl, Nat.le_of_ble_eq_true rfl⟩ ⟨Nat.le_of_ble_eq_true rfl, Nat.le_of_ble_eq_true rfl⟩ rfl hl.1 rfl (Nat.le_of_ble_eq_true rfl) dX12_answered_10 (fun z_3 hz_3 => ?_)
    rcases hz_3 with ⟨qz_3, hz_3⟩ | ⟨qz_3, hz_3⟩
    ·
      subst qz_3
      refine lv_if_ne (tgt := 22) hx hb dX12_answered_13 rfl (fun _ => ?_) (fun c => absurd c (by decide))
      refine lv_iload_n hx hb dX12_answered_22 rfl (lv_at hl 3 rfl) ?_
      refine lv_sipush (v := iZ 400) hx hb dX12_answered_23 sip_400 ?_
      refine va_mmin (rest := []) hx hb (by rw [hml]; exact hl.1.symm) (own := RX12) hown (hts _ qm_X12_137) (hts _ qt_yJ9_min_7cf53) (hts _ qz_J9) (hts _ qc_J9_min_7cf53) (Nat.le_of_ble_eq_true rfl) (Nat.le_of_ble_eq_true rfl) (Nat.le_of_ble_eq_true rfl) (Nat.le_of_ble_eq_true rfl) dX12_answered_26 ?_
      refine lv_topi (fun x_5 ex_5 => ?_)
      obtain rfl : x_5 = iZ (min x3 400) := ex_5.trans (zmin ⟨by omega, by omega⟩ ⟨by omega, by omega⟩)
      refine lv_istore (lv' := [(4, .int (iZ (min x3 400))), (0, .ref hm), (1, .int (iZ x1)), (2, .int (iZ x2)), (3, .int (iZ x3))]) hx hb dX12_answered_29 hl (bl rfl) rfl (fun ls hl => ?_)
      have HL31 : ∀ (fu : Nat) (v4_31 : Int) (H : Heap) (locs : List Loc) (ls : Array Slot), (v4_31 - (0) + 2) < (fu : Int) → (((0) - 1 ≤ v4_31 ∧ v4_31 ≤ 400)) → (v4_31 ≤ 400) → (∀ u : Int, v4_31 < u → u ≤ min x3 400 → ¬ ecF (sh Af 10) (sh Af 46) (gz Af 1) x1 u x2 ≤ x3) → va_P D vwCl [(hm, .inr (12, [.ref Ma, .ref Mn, .int (iZ Mst), .long Mtp, .long Mbt, .ref Ms, .ref My, .ref Mt, .ref Mp, .ref Mx, .int (iZ Mtd), .int (iZ Msz), .int (iZ Mtk), .int (iZ Mfr), .int (iZ Men), .int (iZ Mva), .int (iZ Mfk), .int (iZ Mfp), .int (iZ Mfs), .int (iZ Mse), .int (iZ Mlt), .ref Mo, .int (iZ Mdp), .int (iZ Mct), .ref Mk, .ref Ml, .ref Mb, .ref Mh, .ref Mc, .int (iZ Mdr), .int (iZ Mrs), .ref Mz, .ref Mr, .ref Mq, .int (iZ Mit), .int (iZ Mmk)])), (Ma, .inl (k 1, 5340, .inl Af))] H → va_D A [(hm, .inr (12, [.ref Ma, .ref Mn, .int (iZ Mst), .long Mtp, .long Mbt, .ref Ms, .ref My, .ref Mt, .ref Mp, .ref Mx, .int (iZ Mtd), .int (iZ Msz), .int (iZ Mtk), .int (iZ Mfr), .int (iZ Men), .int (iZ Mva), .int (iZ Mfk), .int (iZ Mfp), .int (iZ Mfs), .int (iZ Mse), .int (iZ Mlt), .ref Mo, .int (iZ Mdp), .int (iZ Mct), .ref Mk, .ref Ml, .ref Mb, .ref Mh, .ref Mc, .int (iZ Mdr), .int (iZ Mrs), .ref Mz, .ref Mr, .ref Mq, .int (iZ Mit), .int (iZ Mmk)])), (Ma, .inl (k 1, 5340, .inl Af))] → va_S A s.heap H locs → lv_has ls 5 [(4, .int (iZ v4_31)), (0, .ref hm), (1, .int (iZ x1)), (2, .int (iZ x2)), (3, .int (iZ x3))] → W p l e (rj 6 0 0) s m [.ref hm, .int (iZ x1), .int (iZ x2), .int (iZ x3)].toArray below meth c H locs 0 0 (MQ below (QW (σ := ((Int × Int) × (Int64) × (Unit) × (Unit))) (fun u => some (.int (iZ u.1.1))) (fun u => (((0 ≤ x1 ∧ x1 < (gz Af 0)) ∧ (0 ≤ x2 ∧ x2 < (gz Af 0)) ∧ ¬ x1 = x2 ∧ (0 ≤ x3 ∧ x3 ≤ 500)) ∧ isAw (fun u => ecF (sh Af 10) (sh Af 46) (gz Af 1) x1 u x2) (min x3 400) x3 u.1.1) ∨ (¬ ((0 ≤ x1 ∧ x1 < (gz Af 0)) ∧ (0 ≤ x2 ∧ x2 < (gz Af 0)) ∧ ¬ x1 = x2 ∧ (0 ≤ x3 ∧ x3 ≤ 500)) ∧ (u.1.1 : Int) = -1)) (fun u => [(hm, .inr (12, [.ref Ma, .ref Mn, .int (iZ u.1.2), .long Mtp, .long Mbt, .ref Ms, .ref My, .ref Mt, .ref Mp, .ref Mx, .int (iZ Mtd), .int (iZ Msz), .int (iZ Mtk), .int (iZ Mfr), .int (iZ Men), .int (iZ Mva), .int (iZ Mfk), .int (iZ Mfp), .int (iZ Mfs), .int (iZ Mse), .int (iZ Mlt), .ref Mo, .int (iZ Mdp), .int (iZ Mct), .ref Mk, .ref Ml, .ref Mb, .ref Mh, .ref Mc, .int (iZ Mdr), .int (iZ Mrs), .ref Mz, .ref Mr, .ref Mq, .int (iZ Mit), .int (iZ Mmk)])), (Ma, .inl (k 1, 5340, .inl Af))]) D A) [.ref hm, .int (iZ x1), .int (iZ x2), .int (iZ x3)].toArray s 0 0 A) (F0 m 31 ls []) := by
        intro fu
        induction fu with
        | zero => intro v4_31 H locs ls hμ31 hi31 hf0_31 haw hP hD hS hl; exact absurd hμ31 (by omega)
        | succ fu ih31 =>
          intro v4_31 H locs ls hμ31 hi31 hf0_31 haw hP hD hS hl
          refine lv_iload hx hb dX12_answered_31 (lv_at hl 0 rfl) ?_
          refine lv_if_lt (tgt := 61) hx hb dX12_answered_33 rfl (fun c_6 => ?_) (fun c_6 => ?_)
          ·
            have c_6 := (zlt (x := iZ v4_31) (y := iZ 0) rfl rfl ⟨by omega, by omega⟩ wn_0).mp c_6
            refine lv_aload_n hx hb dX12_answered_61 rfl (lv_at hl 1 rfl) ?_
            refine lv_bipush (v := iZ 6) hx hb dX12_answered_62 bip_6 ?_
            refine CWV (As := [.int (iZ 6)]) (rest := []) (wc := _) (wr := [(Ma, .inl (k 1, 5340, .inl Af))]) hx hb hml hown hts hKK hP hD hS hA (m_refuse l D k hm Ma Mn Ms My Mt Mp Mx Mo Mk Ml Mb Mh Mc Mz Mr Mq Mst Mtd Msz Mtk Mfr Men Mva Mfk Mfp Mfs Mse Mlt Mdp Mct Mdr Mrs Mit Mmk Mtp Mbt 6) ci_X12_refuse qm_X12_81 ⟨Nat.le_of_ble_eq_true rfl, Nat.le_of_ble_eq_true rfl⟩ ⟨Nat.le_of_ble_eq_true rfl, Nat.le_of_ble_eq_true rfl⟩ [0] [1] rfl rfl rfl rfl rfl (dj rfl) 0 rfl rfl rfl hl.1 rfl (Nat.le_of_ble_eq_true rfl) dX12_answered_64 (fun u_7 H locs hφ hP hD hS => ?_)
            refine W.eq (g2 := F0 m 67 ls [.int (iZ (-1))]) rfl ?_
            exact EWi hx hb hr hlocks hS (((-1), 6), 0, (), ()) rfl (show (((0 ≤ x1 ∧ x1 < (gz Af 0)) ∧ (0 ≤ x2 ∧ x2 < (gz Af 0)) ∧ ¬ x1 = x2 ∧ (0 ≤ x3 ∧ x3 ≤ 500)) ∧ isAw (fun u => ecF (sh Af 10) (sh Af 46) (gz Af 1) x1 u x2) (min x3 400) x3 (-1)) ∨ (¬ ((0 ≤ x1 ∧ x1 < (gz Af 0)) ∧ (0 ≤ x2 ∧ x2 < (gz Af 0)) ∧ ¬ x1 = x2 ∧ (0 ≤ x3 ∧ x3 ≤ 500)) ∧ ((-1) : Int) = -1) from (Or.inl ⟨by omega, Or.inl ⟨rfl, fun u a b => haw u (by omega) b⟩⟩)) (hP.sub [1, 0] rfl) (hD.sub [1, 0] rfl rfl) dX12_answered_67
          ·
            have c_6 := mt (zlt (x := iZ v4_31) (y := iZ 0) rfl rfl ⟨by omega, by omega⟩ wn_0).mpr c_6
            refine lv_aload_n hx hb dX12_answered_36 rfl (lv_at hl 1 rfl) ?_
            refine lv_iload_n hx hb dX12_answered_37 rfl (lv_at hl 2 rfl) ?_
            refine lv_iload hx hb dX12_answered_38 (lv_at hl 0 rfl) ?_
            refine lv_iload_n hx hb dX12_answered_40 rfl (lv_at hl 3 rfl) ?_
            refine CPV (As := [.int (iZ x1), .int (iZ v4_31), .int (iZ x2)]) (rest := []) hx hb hml hown hts hKK hP (m_echo l D k ([.ref Ma, .ref Mn, .int (iZ Mst), .long Mtp, .long Mbt, .ref Ms, .ref My, .ref Mt, .ref Mp, .ref Mx, .int (iZ Mtd), .int (iZ Msz), .int (iZ Mtk), .int (iZ Mfr), .int (iZ Men), .int (iZ Mva), .int (iZ Mfk), .int (iZ Mfp), .int (iZ Mfs), .int (iZ Mse), .int (iZ Mlt), .ref Mo, .int (iZ Mdp), .int (iZ Mct), .ref Mk, .ref Ml, .ref Mb, .ref Mh, .ref Mc, .int (iZ Mdr), .int (iZ Mrs), .ref Mz, .ref Mr, .ref Mq, .int (iZ Mit), .int (iZ Mmk)]) hm Ma Af x1 v4_31 x2 rfl hM ⟨by omega, by omega⟩ ⟨by omega, by omega⟩ ⟨by omega, by omega⟩ (by omega)) ci_X12_echoOf qm_X12_345 ⟨Nat.le_of_ble_eq_true rfl, Nat.le_of_ble_eq_true rfl⟩ ⟨Nat.le_of_ble_eq_true rfl, Nat.le_of_ble_eq_true rfl⟩ 0 rfl rfl rfl hl.1 rfl (Nat.le_of_ble_eq_true rfl) dX12_answered_41 (fun z_8 hz_8 => ?_)
            obtain ⟨ez_8, az_8⟩ := hz_8
            refine lv_iload_n hx hb dX12_answered_44 rfl (lv_at hl 4 rfl) ?_
            refine lv_icmp_gt (tgt := 55) hx hb dX12_answered_45 rfl (fun c_9 => ?_) (fun c_9 => ?_)
            ·
              have c_9 := (zlt (x := iZ x3) (y := iZ z_8) rfl rfl ⟨by omega, by omega⟩ ⟨by omega, by omega⟩).mp c_9
              refine lv_iinc (v := iZ (v4_31 + (-1))) (lv' := [(4, .int (iZ (v4_31 + (-1)))), (0, .ref hm), (1, .int (iZ x1)), (2, .int (iZ x2)), (3, .int (iZ x3))]) hx hb dX12_answered_55 hl (k := 0) rfl (iZ_add v4_31 (-1)) (by decide) rfl (fun ls hl => ?_)
              refine lv_goto (tgt := 31) hx hb dX12_answered_58 rfl ?_
              exact ih31  (v4_31 + (-1)) _ _ _ (by omega) (show ((0) - 1 ≤ (v4_31 + (-1)) ∧ (v4_31 + (-1)) ≤ 400) from ⟨by omega, by omega⟩) (show (v4_31 + (-1)) ≤ 400 from (by omega)) (show ∀ u : Int, (v4_31 + (-1)) < u → u ≤ min x3 400 → ¬ ecF (sh Af 10) (sh Af 46) (gz Af 1) x1 u x2 ≤ x3 from (fun u a b => by by_cases q : u = v4_31; rw [q]; omega; exact haw u (by omega) b)) (hP.sub [0, 1] rfl) (hD.sub [0, 1] rfl rfl) hS (lv_sub hl [0, 1, 2, 3, 4] rfl)
            ·
              have c_9 := mt (zlt (x := iZ x3) (y := iZ z_8) rfl rfl ⟨by omega, by omega⟩ ⟨by omega, by omega⟩).mpr c_9
              refine lv_aload_n hx hb dX12_answered_48 rfl (lv_at hl 1 rfl) ?_
              refine lv_iload hx hb dX12_answered_49 (lv_at hl 0 rfl) ?_
              refine CWV (As := [.int (iZ v4_31)]) (rest := []) (wc := _) (wr := [(Ma, .inl (k 1, 5340, .inl Af))]) hx hb hml hown hts hKK hP hD hS hA (m_gives l D k hm Ma Mn Ms My Mt Mp Mx Mo Mk Ml Mb Mh Mc Mz Mr Mq Mst Mtd Msz Mtk Mfr Men Mva Mfk Mfp Mfs Mse Mlt Mdp Mct Mdr Mrs Mit Mmk Mtp Mbt v4_31) ci_X12_gives qm_X12_85 ⟨Nat.le_of_ble_eq_true rfl, Nat.le_of_ble_eq_true rfl⟩ ⟨Nat.le_of_ble_eq_true rfl, Nat.le_of_ble_eq_true rfl⟩ [0] [1] rfl rfl rfl rfl rfl (dj rfl) 0 rfl rfl rfl hl.1 rfl (Nat.le_of_ble_eq_true rfl) dX12_answered_51 (fun u_10 H locs hφ hP hD hS => ?_)
              refine W.eq (g2 := F0 m 54 ls [.int (iZ v4_31)]) rfl ?_
              exact EWi hx hb hr hlocks hS ((v4_31, 0), 0, (), ()) rfl (show (((0 ≤ x1 ∧ x1 < (gz Af 0)) ∧ (0 ≤ x2 ∧ x2 < (gz Af 0)) ∧ ¬ x1 = x2 ∧ (0 ≤ x3 ∧ x3 ≤ 500)) ∧ isAw (fun u => ecF (sh Af 10) (sh Af 46) (gz Af 1) x1 u x2) (min x3 400) x3 v4_31) ∨ (¬ ((0 ≤ x1 ∧ x1 < (gz Af 0)) ∧ (0 ≤ x2 ∧ x2 < (gz Af 0)) ∧ ¬ x1 = x2 ∧ (0 ≤ x3 ∧ x3 ≤ 500)) ∧ (v4_31 : Int) = -1) from (Or.inl ⟨by omega, Or.inr ⟨⟨by omega, by omega⟩, by show ecF (sh Af 10) (sh Af 46) (gz Af 1) x1 v4_31 x2 ≤ x3; omega, haw⟩⟩)) (hP.sub [1, 0] rfl) (hD.sub [1, 0] rfl rfl) dX12_answered_54
      exact HL31 405 (min x3 400) _ _ _ (by omega) (show ((0) - 1 ≤ (min x3 400) ∧ (min x3 400) ≤ 400) from ⟨by omega, by omega⟩) (show (min x3 400) ≤ 400 from (by omega)) (show ∀ u : Int, (min x3 400) < u → u ≤ min x3 400 → ¬ ecF (sh Af 10) (sh Af 46) (gz Af 1) x1 u x2 ≤ x3 from (fun u a b => absurd a (by omega))) (hP.sub [0, 1] rfl) (hD.sub [0, 1] rfl rfl) hS (lv_sub hl [0, 1, 2, 3, 4] rfl)
    ·
      subst qz_3
      refine lv_if_ne (tgt := 22) hx hb dX12_answered_13 rfl (fun c => absurd (by decide) c) (fun _ => ?_)
      refine lv_aload_n hx hb dX12_answered_16 rfl (lv_at hl 0 rfl) ?_
      refine lv_iconst (v := iZ 1) hx hb dX12_answered_17 rfl ?_
      refine CWV (As := [.int (iZ 1)]) (rest := []) (wc := _) (wr := [(Ma, .inl (k 1, 5340, .inl Af))]) hx hb hml hown hts hKK hP hD hS hA (m_refuse l D k hm Ma Mn Ms My Mt Mp Mx Mo Mk Ml Mb Mh Mc Mz Mr Mq Mst Mtd Msz Mtk Mfr Men Mva Mfk Mfp Mfs Mse Mlt Mdp Mct Mdr Mrs Mit Mmk Mtp Mbt 1) ci_X12_refuse qm_X12_81 ⟨Nat.le_of_ble_eq_true rfl, Nat.le_of_ble_eq_true rfl⟩ ⟨Nat.le_of_ble_eq_true rfl, Nat.le_of_ble_eq_true rfl⟩ [0] [1] rfl rfl rfl rfl rfl (dj rfl) 0 rfl rfl rfl hl.1 rfl (Nat.le_of_ble_eq_true rfl) dX12_answered_18 (fun u_12 H locs hφ hP hD hS => ?_)
      refine W.eq (g2 := F0 m 21 ls [.int (iZ (-1))]) rfl ?_
      exact EWi hx hb hr hlocks hS (((-1), 1), 0, (), ()) rfl (show (((0 ≤ x1 ∧ x1 < (gz Af 0)) ∧ (0 ≤ x2 ∧ x2 < (gz Af 0)) ∧ ¬ x1 = x2 ∧ (0 ≤ x3 ∧ x3 ≤ 500)) ∧ isAw (fun u => ecF (sh Af 10) (sh Af 46) (gz Af 1) x1 u x2) (min x3 400) x3 (-1)) ∨ (¬ ((0 ≤ x1 ∧ x1 < (gz Af 0)) ∧ (0 ≤ x2 ∧ x2 < (gz Af 0)) ∧ ¬ x1 = x2 ∧ (0 ≤ x3 ∧ x3 ≤ 500)) ∧ ((-1) : Int) = -1) from (Or.inr ⟨by omega, rfl⟩)) (hP.sub [1, 0] rfl) (hD.sub [1, 0] rfl rfl) dX12_answered_21
  ·
    subst qz_1
    refine lv_if_eq (tgt := 16) hx hb dX12_answered_6 rfl (fun _ => ?_) (fun c => absurd (by decide) c)
    refine lv_aload_n hx hb dX12_answered_16 rfl (lv_at hl 0 rfl) ?_
    refine lv_iconst (v := iZ 1) hx hb dX12_answered_17 rfl ?_
    refine CWV (As := [.int (iZ 1)]) (rest := []) (wc := _) (wr := [(Ma, .inl (k 1, 5340, .inl Af))]) hx hb hml hown hts hKK hP hD hS hA (m_refuse l D k hm Ma Mn Ms My Mt Mp Mx Mo Mk Ml Mb Mh Mc Mz Mr Mq Mst Mtd Msz Mtk Mfr Men Mva Mfk Mfp Mfs Mse Mlt Mdp Mct Mdr Mrs Mit Mmk Mtp Mbt 1) ci_X12_refuse qm_X12_81 ⟨Nat.le_of_ble_eq_true rfl, Nat.le_of_ble_eq_true rfl⟩ ⟨Nat.le_of_ble_eq_true rfl, Nat.le_of_ble_eq_true rfl⟩ [0] [1] rfl rfl rfl rfl rfl (dj rfl) 0 rfl rfl rfl hl.1 rfl (Nat.le_of_ble_eq_true rfl) dX12_answered_18 (fun u_14 H locs hφ hP hD hS => ?_)
    refine W.eq (g2 := F0 m 21 ls [.int (iZ (-1))]) rfl ?_
    exact EWi hx hb hr hlocks hS (((-1), 1), 0, (), ()) rfl (show (((0 ≤ x1 ∧ x1 < (gz Af 0)) ∧ (0 ≤ x2 ∧ x2 < (gz Af 0)) ∧ ¬ x1 = x2 ∧ (0 ≤ x3 ∧ x3 ≤ 500)) ∧ isAw (fun u => ecF (sh Af 10) (sh Af 46) (gz Af 1) x1 u x2) (min x3 400) x3 (-1)) ∨ (¬ ((0 ≤ x1 ∧ x1 < (gz Af 0)) ∧ (0 ≤ x2 ∧ x2 < (gz Af 0)) ∧ ¬ x1 = x2 ∧ (0 ≤ x3 ∧ x3 ≤ 500)) ∧ ((-1) : Int) = -1) from (Or.inr ⟨by omega, rfl⟩)) (hP.sub [1, 0] rfl) (hD.sub [1, 0] rfl rfl) dX12_answered_21