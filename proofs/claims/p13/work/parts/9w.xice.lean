section
set_option maxHeartbeats 4000000 in
set_option maxRecDepth 100000 in
theorem x_readIce (l : Launch) (D : va_G) (k : Nat → ClassId) (hq : Nat) (hr1 : Nat) (tx : Nat) (kw : Nat) (lt : Int) (tp : Int) (ln : Int) (pl : Int) (en : Int) (ki : Int) (va : Int) (ke : Int) (fk : Int) (fp : Int) (nm : Int64) (bf : Nat → Int32) (kwf : Nat → Int64) (hs : Nat) (hN : Nat) (hf : Nat) (hg : Nat) (n : Int) (ni : Int) (lw : Int) (we : Int) (nf : Nat → Int64) (f : Nat → Int32) (g : Nat → Int32) (cu : Int) (G : Int → Int) (N : Int → Int) (hI1 : (0 ≤ tp ∧ tp ≤ 900) ∧ (0 ≤ ln ∧ ln ≤ 900) ∧ (0 ≤ pl ∧ pl ≤ en) ∧ (en ≤ ln) ∧ (0 ≤ ki ∧ ki ≤ 4) ∧ (-2147483648 ≤ va ∧ va < 2147483648) ∧ (-1 ≤ ke ∧ ke ≤ 24)) (hbf : rgI bf (-128) 127 900) (hkw : ∀ j : Nat, j < 25 → kwf j = lZ (kwC j)) (hrx : RDX (tX bf ln) cu pl en ki va ke nm) (hn : 0 ≤ n ∧ n ≤ 6) (hni : 0 ≤ ni ∧ ni ≤ 8) (hns : xNs nf N n) (hG : xRw g G (ni * 4)) : WD (σ := ((Int × Int × Int × Int × Int × Int × Int × Int × Int) × (Int64 × Int64) × ((Nat → Int32)) × (Unit))) l yX6_readIce cX6_readIce 6 (some .boolean) 3 0 0 D k [.ref hq] [(hq, .inr (6, [.ref hr1, .ref hs, .int (iZ lt)])), (hr1, .inr (4, [.ref tx, .ref kw, .int (iZ tp), .int (iZ ln), .int (iZ pl), .int (iZ en), .int (iZ ki), .int (iZ va), .int (iZ ke), .long nm, .int (iZ fk), .int (iZ fp)])), (tx, .inl (k 0, 900, .inl bf)), (kw, .inl (k 2, 25, .inr (.inl kwf))), (hs, .inr (5, [.ref hN, .ref hf, .ref hg, .int (iZ n), .int (iZ ni), .int (iZ lw), .int (iZ we)])), (hN, .inl (k 2, 6, .inr (.inl nf))), (hf, .inl (k 1, 36, .inl f)), (hg, .inl (k 1, 32, .inl g))] (fun u => some (.int (iZ u.1.1))) (fun u => ((0 ≤ tp ∧ tp ≤ 900) ∧ (0 ≤ ln ∧ ln ≤ 900) ∧ (0 ≤ u.1.2.1 ∧ u.1.2.1 ≤ u.1.2.2.1) ∧ (u.1.2.2.1 ≤ ln) ∧ (0 ≤ u.1.2.2.2.1 ∧ u.1.2.2.2.1 ≤ 4) ∧ (-2147483648 ≤ u.1.2.2.2.2.1 ∧ u.1.2.2.2.2.1 < 2147483648) ∧ (-1 ≤ u.1.2.2.2.2.2.1 ∧ u.1.2.2.2.2.2.1 ≤ 24)) ∧ (0 ≤ u.1.2.2.2.2.2.2.2.2 ∧ u.1.2.2.2.2.2.2.2.2 ≤ 8) ∧ (((u.1.1 : Int) = 1 ∧ ∃ (q9 : Int) (G9 : Int → Int), xIce (tX bf ln) N n ni G cu = .inr (q9, G9) ∧ cu < q9 ∧ RDX (tX bf ln) q9 u.1.2.1 u.1.2.2.1 u.1.2.2.2.1 u.1.2.2.2.2.1 u.1.2.2.2.2.2.1 u.2.1.2 ∧ xRw u.2.2.1 G9 (u.1.2.2.2.2.2.2.2.2 * 4) ∧ u.1.2.2.2.2.2.2.2.2 = ni + 1 ∧ u.1.2.2.2.2.2.2.1 = fk ∧ u.1.2.2.2.2.2.2.2.1 = fp) ∨ ((u.1.1 : Int) = 0 ∧ xIce (tX bf ln) N n ni G cu = .inl (u.1.2.2.2.2.2.2.1, u.1.2.2.2.2.2.2.2.1)))) (fun u => [(hq, .inr (6, [.ref hr1, .ref hs, .int (iZ lt)])), (hr1, .inr (4, [.ref tx, .ref kw, .int (iZ tp), .int (iZ ln), .int (iZ u.1.2.1), .int (iZ u.1.2.2.1), .int (iZ u.1.2.2.2.1), .int (iZ u.1.2.2.2.2.1), .int (iZ u.1.2.2.2.2.2.1), .long u.2.1.2, .int (iZ u.1.2.2.2.2.2.2.1), .int (iZ u.1.2.2.2.2.2.2.2.1)])), (tx, .inl (k 0, 900, .inl bf)), (kw, .inl (k 2, 25, .inr (.inl kwf))), (hs, .inr (5, [.ref hN, .ref hf, .ref hg, .int (iZ n), .int (iZ u.1.2.2.2.2.2.2.2.2), .int (iZ lw), .int (iZ we)])), (hN, .inl (k 2, 6, .inr (.inl nf))), (hf, .inl (k 1, 36, .inl f)), (hg, .inl (k 1, 32, .inl u.2.2.1))]) := by
  refine MW (by decide) (Nat.le_of_ble_eq_true rfl) (fun p e s m below meth c ls A hx hb hml hr hlocks hin hts hown hKK hP hD hS hA hl => ?_)
  have hK := hKK.1
  have hl : lv_has ls 6 [(0, .ref hq)] := hl
  obtain ⟨⟨ar_1, br_1⟩, cr_1, dr_1, er_1, fr_1, gr_1, hr_1⟩ := id hrx
  refine lv_aload_n hx hb dX6_readIce_0 rfl (lv_at hl 0 rfl) ?_
  refine va_get (D := D) (ci := 6) (v := .ref hs) (C := RX6) (T := TX6) (N := 3) hx hb hts iX6 hown hK hP 0 rfl rfl 1 (bl rfl) (hts _ qf_X6_15) (fun _ h => h) rfl dX6_readIce_1 ?_
  refine va_get (D := D) (ci := 5) (v := .int (iZ ni)) (C := RX5) (T := TX5) (N := 7) hx hb hts iX5 hown hK hP 4 rfl rfl 4 (bl rfl) (hts _ qf_X6_96) (fun _ h => h) rfl dX6_readIce_4 ?_
  refine lv_bipush (v := iZ 8) hx hb dX6_readIce_7 bip_8 ?_
  refine lv_icmp_lt (tgt := 22) hx hb dX6_readIce_9 rfl (fun c_2 => ?_) (fun c_2 => ?_)
  ·
    have c_2 := (zlt (x := iZ ni) (y := iZ 8) rfl rfl ⟨by omega, by omega⟩ wn_8).mp c_2
    refine lv_aload_n hx hb dX6_readIce_22 rfl (lv_at hl 0 rfl) ?_
    refine va_get (D := D) (ci := 6) (v := .ref hr1) (C := RX6) (T := TX6) (N := 3) hx hb hts iX6 hown hK hP 0 rfl rfl 0 (bl rfl) (hts _ qf_X6_9) (fun _ h => h) rfl dX6_readIce_23 ?_
    refine CWV (As := []) (rest := []) (wc := _) (wr := [(hq, .inr (6, [.ref hr1, .ref hs, .int (iZ lt)])), (hs, .inr (5, [.ref hN, .ref hf, .ref hg, .int (iZ n), .int (iZ ni), .int (iZ lw), .int (iZ we)])), (hN, .inl (k 2, 6, .inr (.inl nf))), (hf, .inl (k 1, 36, .inl f)), (hg, .inl (k 1, 32, .inl g))]) hx hb hml hown hts hKK hP hD hS hA (x_next l D k hr1 tx kw tp ln pl en ki va ke fk fp nm bf kwf ⟨⟨by omega, by omega⟩, ⟨by omega, by omega⟩, by omega, by omega⟩ hbf hkw) ci_X4_next qm_X6_54 ⟨Nat.le_of_ble_eq_true rfl, Nat.le_of_ble_eq_true rfl⟩ ⟨Nat.le_of_ble_eq_true rfl, Nat.le_of_ble_eq_true rfl⟩ [1, 2, 3] [0, 4, 5, 6, 7] rfl rfl rfl rfl rfl (dj rfl) 0 rfl rfl rfl hl.1 rfl (Nat.le_of_ble_eq_true rfl) dX6_readIce_26 (fun u_3 H locs hφ hP hD hS => ?_)
    obtain ⟨p_4, p_5⟩ : (RDX (tX bf ln) en u_3.1.2.1 u_3.1.2.2.1 u_3.1.2.2.2.1 u_3.1.2.2.2.2.1 u_3.1.2.2.2.2.2 u_3.2.1.2) ∧ ((0 ≤ tp ∧ tp ≤ 900) ∧ (0 ≤ ln ∧ ln ≤ 900) ∧ (0 ≤ u_3.1.2.1 ∧ u_3.1.2.1 ≤ u_3.1.2.2.1) ∧ (u_3.1.2.2.1 ≤ ln) ∧ (0 ≤ u_3.1.2.2.2.1 ∧ u_3.1.2.2.2.1 ≤ 4) ∧ (-2147483648 ≤ u_3.1.2.2.2.2.1 ∧ u_3.1.2.2.2.2.1 < 2147483648) ∧ (-1 ≤ u_3.1.2.2.2.2.2 ∧ u_3.1.2.2.2.2.2 ≤ 24)) := hφ
    have rx_6 := RDX.nx hrx p_4
    obtain ⟨⟨ar_7, br_7⟩, cr_7, dr_7, er_7, fr_7, gr_7, hr_7⟩ := id rx_6
    obtain ⟨t1u_8, t2u_8, t3u_8, t4u_8, t5u_8, t6u_8, t7u_8⟩ := id p_5
    refine W.eq (g2 := F0 m 29 ls []) rfl ?_
    refine lv_aload_n hx hb dX6_readIce_29 rfl (lv_at hl 0 rfl) ?_
    refine va_get (D := D) (ci := 6) (v := .ref hs) (C := RX6) (T := TX6) (N := 3) hx hb hts iX6 hown hK hP 0 rfl rfl 1 (bl rfl) (hts _ qf_X6_15) (fun _ h => h) rfl dX6_readIce_30 ?_
    refine va_get (D := D) (ci := 5) (v := .int (iZ ni)) (C := RX5) (T := TX5) (N := 7) hx hb hts iX5 hown hK hP 1 rfl rfl 4 (bl rfl) (hts _ qf_X6_96) (fun _ h => h) rfl dX6_readIce_33 ?_
    refine lv_iconst (v := iZ 4) hx hb dX6_readIce_36 rfl ?_
    refine lv_imul hx hb dX6_readIce_37 ?_
    refine lv_topi (fun x_9 ex_9 => ?_)
    obtain rfl : x_9 = iZ (ni * 4) := ex_9.trans (iZ_mul ni 4)
    refine lv_istore_n (lv' := [(1, .int (iZ (ni * 4))), (0, .ref hq)]) hx hb dX6_readIce_38 rfl hl (bl rfl) rfl (fun ls hl => ?_)
    refine lv_aload_n hx hb dX6_readIce_39 rfl (lv_at hl 1 rfl) ?_
    refine va_get (D := D) (ci := 6) (v := .ref hr1) (C := RX6) (T := TX6) (N := 3) hx hb hts iX6 hown hK hP 0 rfl rfl 0 (bl rfl) (hts _ qf_X6_9) (fun _ h => h) rfl dX6_readIce_40 ?_
    refine lv_aload_n hx hb dX6_readIce_43 rfl (lv_at hl 1 rfl) ?_
    refine va_get (D := D) (ci := 6) (v := .ref hs) (C := RX6) (T := TX6) (N := 3) hx hb hts iX6 hown hK hP 0 rfl rfl 1 (bl rfl) (hts _ qf_X6_15) (fun _ h => h) rfl dX6_readIce_44 ?_
    refine lv_iconst (v := iZ (-1)) hx hb dX6_readIce_47 rfl ?_
    refine CWV (As := [.ref hs, .int (iZ (-1))]) (rest := []) (wc := _) (wr := [(hq, .inr (6, [.ref hr1, .ref hs, .int (iZ lt)])), (hf, .inl (k 1, 36, .inl f)), (hg, .inl (k 1, 32, .inl g))]) hx hb hml hown hts hKK hP hD hS hA (x_takeRock l D k ([.ref hN, .ref hf, .ref hg, .int (iZ n), .int (iZ ni), .int (iZ lw), .int (iZ we)]) hr1 tx kw hs hN tp ln u_3.1.2.1 u_3.1.2.2.1 u_3.1.2.2.2.1 u_3.1.2.2.2.2.1 u_3.1.2.2.2.2.2 fk fp u_3.2.1.2 bf kwf nf n (xEn (tX bf ln) cu) (-1) N rfl rfl (by first | with_reducible assumption | exact ⟨⟨by omega, by omega⟩, ⟨by omega, by omega⟩, ⟨by omega, by omega⟩, by omega, ⟨by omega, by omega⟩, ⟨by omega, by omega⟩, by omega, by omega⟩) hbf hkw rx_6 ⟨by omega, by omega⟩ ⟨by omega, by omega⟩ hns) ci_X4_takeRock qm_X6_99 ⟨Nat.le_of_ble_eq_true rfl, Nat.le_of_ble_eq_true rfl⟩ ⟨Nat.le_of_ble_eq_true rfl, Nat.le_of_ble_eq_true rfl⟩ [5, 6, 7, 1, 2] [0, 3, 4] rfl rfl rfl rfl rfl (dj rfl) 0 rfl rfl rfl hl.1 rfl (Nat.le_of_ble_eq_true rfl) dX6_readIce_48 (fun u_10 H locs hφ hP hD hS => ?_)
    obtain ⟨p_11, p_12⟩ : ((0 ≤ tp ∧ tp ≤ 900) ∧ (0 ≤ ln ∧ ln ≤ 900) ∧ (0 ≤ u_10.1.2.1 ∧ u_10.1.2.1 ≤ u_10.1.2.2.1) ∧ (u_10.1.2.2.1 ≤ ln) ∧ (0 ≤ u_10.1.2.2.2.1 ∧ u_10.1.2.2.2.1 ≤ 4) ∧ (-2147483648 ≤ u_10.1.2.2.2.2.1 ∧ u_10.1.2.2.2.2.1 < 2147483648) ∧ (-1 ≤ u_10.1.2.2.2.2.2.1 ∧ u_10.1.2.2.2.2.2.1 ≤ 24)) ∧ ((¬ (u_10.1.1 : Int) = -1 ∧ ∃ q9 : Int, xTr (tX bf ln) N n (-1) (xEn (tX bf ln) cu) = .inr (q9, u_10.1.1) ∧ (xEn (tX bf ln) cu) < q9 ∧ RDX (tX bf ln) q9 u_10.1.2.1 u_10.1.2.2.1 u_10.1.2.2.2.1 u_10.1.2.2.2.2.1 u_10.1.2.2.2.2.2.1 u_10.2.1.2 ∧ (0 ≤ u_10.1.1 ∧ u_10.1.1 < n) ∧ u_10.1.2.2.2.2.2.2.1 = fk ∧ u_10.1.2.2.2.2.2.2.2 = fp) ∨ ((u_10.1.1 : Int) = -1 ∧ xTr (tX bf ln) N n (-1) (xEn (tX bf ln) cu) = .inl (u_10.1.2.2.2.2.2.2.1, u_10.1.2.2.2.2.2.2.2))) := hφ
    refine W.eq (g2 := F0 m 51 ls [.int (iZ u_10.1.1)]) rfl ?_
    rcases p_12 with ⟨qt_13, cut_13, st_13, lt_13, xt_13, rt_13, ut_13, vt_13⟩ | ⟨qt_13, st_13⟩
    ·
      obtain ⟨⟨ar_14, br_14⟩, cr_14, dr_14, er_14, fr_14, gr_14, hr_14⟩ := id xt_13
      refine lv_istore_n (lv' := [(2, .int (iZ u_10.1.1)), (1, .int (iZ (ni * 4))), (0, .ref hq)]) hx hb dX6_readIce_51 rfl hl (bl rfl) rfl (fun ls hl => ?_)
      refine lv_iload_n hx hb dX6_readIce_52 rfl (lv_at hl 0 rfl) ?_
      refine lv_iconst (v := iZ (-1)) hx hb dX6_readIce_53 rfl ?_
      refine lv_icmp_ne (tgt := 61) hx hb dX6_readIce_54 rfl (fun c_15 => ?_) (fun c_15 => ?_)
      ·
        have c_15 := mt (zeq (x := iZ u_10.1.1) (y := iZ (-1)) rfl rfl ⟨by omega, by omega⟩ wn_m1).mpr c_15
        refine lv_aload_n hx hb dX6_readIce_61 rfl (lv_at hl 2 rfl) ?_
        refine va_get (D := D) (ci := 6) (v := .ref hr1) (C := RX6) (T := TX6) (N := 3) hx hb hts iX6 hown hK hP 0 rfl rfl 0 (bl rfl) (hts _ qf_X6_9) (fun _ h => h) rfl dX6_readIce_62 ?_
        refine lv_aload_n hx hb dX6_readIce_65 rfl (lv_at hl 2 rfl) ?_
        refine va_get (D := D) (ci := 6) (v := .ref hs) (C := RX6) (T := TX6) (N := 3) hx hb hts iX6 hown hK hP 0 rfl rfl 1 (bl rfl) (hts _ qf_X6_15) (fun _ h => h) rfl dX6_readIce_66 ?_
        refine lv_iload_n hx hb dX6_readIce_69 rfl (lv_at hl 0 rfl) ?_
        refine CWV (As := [.ref hs, .int (iZ u_10.1.1)]) (rest := []) (wc := _) (wr := [(hq, .inr (6, [.ref hr1, .ref hs, .int (iZ lt)])), (hf, .inl (k 1, 36, .inl f)), (hg, .inl (k 1, 32, .inl g))]) hx hb hml hown hts hKK hP hD hS hA (x_takeRock l D k ([.ref hN, .ref hf, .ref hg, .int (iZ n), .int (iZ ni), .int (iZ lw), .int (iZ we)]) hr1 tx kw hs hN tp ln u_10.1.2.1 u_10.1.2.2.1 u_10.1.2.2.2.1 u_10.1.2.2.2.2.1 u_10.1.2.2.2.2.2.1 u_10.1.2.2.2.2.2.2.1 u_10.1.2.2.2.2.2.2.2 u_10.2.1.2 bf kwf nf n cut_13 u_10.1.1 N rfl rfl (by first | with_reducible assumption | exact ⟨⟨by omega, by omega⟩, ⟨by omega, by omega⟩, ⟨by omega, by omega⟩, by omega, ⟨by omega, by omega⟩, ⟨by omega, by omega⟩, by omega, by omega⟩) hbf hkw xt_13 ⟨by omega, by omega⟩ ⟨by omega, by omega⟩ hns) ci_X4_takeRock qm_X6_99 ⟨Nat.le_of_ble_eq_true rfl, Nat.le_of_ble_eq_true rfl⟩ ⟨Nat.le_of_ble_eq_true rfl, Nat.le_of_ble_eq_true rfl⟩ [3, 4, 5, 6, 7] [0, 1, 2] rfl rfl rfl rfl rfl (dj rfl) 0 rfl rfl rfl hl.1 rfl (Nat.le_of_ble_eq_true rfl) dX6_readIce_70 (fun u_16 H locs hφ hP hD hS => ?_)
        obtain ⟨p_17, p_18⟩ : ((0 ≤ tp ∧ tp ≤ 900) ∧ (0 ≤ ln ∧ ln ≤ 900) ∧ (0 ≤ u_16.1.2.1 ∧ u_16.1.2.1 ≤ u_16.1.2.2.1) ∧ (u_16.1.2.2.1 ≤ ln) ∧ (0 ≤ u_16.1.2.2.2.1 ∧ u_16.1.2.2.2.1 ≤ 4) ∧ (-2147483648 ≤ u_16.1.2.2.2.2.1 ∧ u_16.1.2.2.2.2.1 < 2147483648) ∧ (-1 ≤ u_16.1.2.2.2.2.2.1 ∧ u_16.1.2.2.2.2.2.1 ≤ 24)) ∧ ((¬ (u_16.1.1 : Int) = -1 ∧ ∃ q9 : Int, xTr (tX bf ln) N n u_10.1.1 cut_13 = .inr (q9, u_16.1.1) ∧ cut_13 < q9 ∧ RDX (tX bf ln) q9 u_16.1.2.1 u_16.1.2.2.1 u_16.1.2.2.2.1 u_16.1.2.2.2.2.1 u_16.1.2.2.2.2.2.1 u_16.2.1.2 ∧ (0 ≤ u_16.1.1 ∧ u_16.1.1 < n) ∧ u_16.1.2.2.2.2.2.2.1 = u_10.1.2.2.2.2.2.2.1 ∧ u_16.1.2.2.2.2.2.2.2 = u_10.1.2.2.2.2.2.2.2) ∨ ((u_16.1.1 : Int) = -1 ∧ xTr (tX bf ln) N n u_10.1.1 cut_13 = .inl (u_16.1.2.2.2.2.2.2.1, u_16.1.2.2.2.2.2.2.2))) := hφ
        refine W.eq (g2 := F0 m 73 ls [.int (iZ u_16.1.1)]) rfl ?_
        rcases p_18 with ⟨qt_19, cut_19, st_19, lt_19, xt_19, rt_19, ut_19, vt_19⟩ | ⟨qt_19, st_19⟩
        ·
          obtain ⟨⟨ar_20, br_20⟩, cr_20, dr_20, er_20, fr_20, gr_20, hr_20⟩ := id xt_19
          refine lv_istore_n (lv' := [(3, .int (iZ u_16.1.1)), (2, .int (iZ u_10.1.1)), (1, .int (iZ (ni * 4))), (0, .ref hq)]) hx hb dX6_readIce_73 rfl hl (bl rfl) rfl (fun ls hl => ?_)
          refine lv_iload_n hx hb dX6_readIce_74 rfl (lv_at hl 0 rfl) ?_
          refine lv_iconst (v := iZ (-1)) hx hb dX6_readIce_75 rfl ?_
          refine lv_icmp_eq (tgt := 91) hx hb dX6_readIce_76 rfl (fun c_21 => ?_) (fun c_21 => ?_)
          ·
            have c_21 := (zeq (x := iZ u_16.1.1) (y := iZ (-1)) rfl rfl ⟨by omega, by omega⟩ wn_m1).mp c_21
            exact absurd c_21 (by omega)
          ·
            have c_21 := mt (zeq (x := iZ u_16.1.1) (y := iZ (-1)) rfl rfl ⟨by omega, by omega⟩ wn_m1).mpr c_21
            refine lv_aload_n hx hb dX6_readIce_79 rfl (lv_at hl 3 rfl) ?_
            refine va_get (D := D) (ci := 6) (v := .ref hr1) (C := RX6) (T := TX6) (N := 3) hx hb hts iX6 hown hK hP 0 rfl rfl 0 (bl rfl) (hts _ qf_X6_9) (fun _ h => h) rfl dX6_readIce_80 ?_
            refine lv_bipush (v := iZ 9) hx hb dX6_readIce_83 bip_9 ?_
            refine CWV (As := [.int (iZ 9)]) (rest := []) (wc := _) (wr := [(hq, .inr (6, [.ref hr1, .ref hs, .int (iZ lt)])), (hf, .inl (k 1, 36, .inl f)), (hg, .inl (k 1, 32, .inl g)), (hs, .inr (5, [.ref hN, .ref hf, .ref hg, .int (iZ n), .int (iZ ni), .int (iZ lw), .int (iZ we)])), (hN, .inl (k 2, 6, .inr (.inl nf)))]) hx hb hml hown hts hKK hP hD hS hA (x_takeWord l D k hr1 tx kw tp ln u_16.1.2.1 u_16.1.2.2.1 u_16.1.2.2.2.1 u_16.1.2.2.2.2.1 u_16.1.2.2.2.2.2.1 u_16.1.2.2.2.2.2.2.1 u_16.1.2.2.2.2.2.2.2 u_16.2.1.2 bf kwf cut_19 9 (by first | with_reducible assumption | exact ⟨⟨by omega, by omega⟩, ⟨by omega, by omega⟩, ⟨by omega, by omega⟩, by omega, ⟨by omega, by omega⟩, ⟨by omega, by omega⟩, by omega, by omega⟩) hbf hkw xt_19 ⟨by omega, by omega⟩) ci_X4_takeWord qm_X6_85 ⟨Nat.le_of_ble_eq_true rfl, Nat.le_of_ble_eq_true rfl⟩ ⟨Nat.le_of_ble_eq_true rfl, Nat.le_of_ble_eq_true rfl⟩ [3, 4, 5] [0, 1, 2, 6, 7] rfl rfl rfl rfl rfl (dj rfl) 0 rfl rfl rfl hl.1 rfl (Nat.le_of_ble_eq_true rfl) dX6_readIce_85 (fun u_22 H locs hφ hP hD hS => ?_)
            obtain ⟨p_23, p_24⟩ : ((0 ≤ tp ∧ tp ≤ 900) ∧ (0 ≤ ln ∧ ln ≤ 900) ∧ (0 ≤ u_22.1.2.1 ∧ u_22.1.2.1 ≤ u_22.1.2.2.1) ∧ (u_22.1.2.2.1 ≤ ln) ∧ (0 ≤ u_22.1.2.2.2.1 ∧ u_22.1.2.2.2.1 ≤ 4) ∧ (-2147483648 ≤ u_22.1.2.2.2.2.1 ∧ u_22.1.2.2.2.2.1 < 2147483648) ∧ (-1 ≤ u_22.1.2.2.2.2.2.1 ∧ u_22.1.2.2.2.2.2.1 ≤ 24)) ∧ (((u_22.1.1 : Int) = 1 ∧ ∃ q9 : Int, xTw (tX bf ln) 9 cut_19 = .inr q9 ∧ cut_19 < q9 ∧ RDX (tX bf ln) q9 u_22.1.2.1 u_22.1.2.2.1 u_22.1.2.2.2.1 u_22.1.2.2.2.2.1 u_22.1.2.2.2.2.2.1 u_22.2.1.2 ∧ u_22.1.2.2.2.2.2.2.1 = u_16.1.2.2.2.2.2.2.1 ∧ u_22.1.2.2.2.2.2.2.2 = u_16.1.2.2.2.2.2.2.2) ∨ ((u_22.1.1 : Int) = 0 ∧ xTw (tX bf ln) 9 cut_19 = .inl (u_22.1.2.2.2.2.2.2.1, u_22.1.2.2.2.2.2.2.2))) := hφ
            refine W.eq (g2 := F0 m 88 ls [.int (iZ u_22.1.1)]) rfl ?_
            rcases p_24 with ⟨qt_25, cut_25, st_25, lt_25, xt_25, ut_25, vt_25⟩ | ⟨qt_25, st_25⟩
            ·
              rw [qt_25]
              obtain ⟨⟨ar_26, br_26⟩, cr_26, dr_26, er_26, fr_26, gr_26, hr_26⟩ := id xt_25
              refine lv_if_ne (tgt := 93) hx hb dX6_readIce_88 rfl (fun _ => ?_) (fun c => absurd c (by decide))
              refine lv_aload_n hx hb dX6_readIce_93 rfl (lv_at hl 3 rfl) ?_
              refine va_get (D := D) (ci := 6) (v := .ref hr1) (C := RX6) (T := TX6) (N := 3) hx hb hts iX6 hown hK hP 0 rfl rfl 0 (bl rfl) (hts _ qf_X6_9) (fun _ h => h) rfl dX6_readIce_94 ?_
              refine lv_iconst (v := iZ 0) hx hb dX6_readIce_97 rfl ?_
              refine lv_sipush (v := iZ 400) hx hb dX6_readIce_98 sip_400 ?_
              refine CWV (As := [.int (iZ 0), .int (iZ 400)]) (rest := []) (wc := _) (wr := [(hq, .inr (6, [.ref hr1, .ref hs, .int (iZ lt)])), (hf, .inl (k 1, 36, .inl f)), (hg, .inl (k 1, 32, .inl g)), (hs, .inr (5, [.ref hN, .ref hf, .ref hg, .int (iZ n), .int (iZ ni), .int (iZ lw), .int (iZ we)])), (hN, .inl (k 2, 6, .inr (.inl nf)))]) hx hb hml hown hts hKK hP hD hS hA (x_takeNumber l D k hr1 tx kw tp ln u_22.1.2.1 u_22.1.2.2.1 u_22.1.2.2.2.1 u_22.1.2.2.2.2.1 u_22.1.2.2.2.2.2.1 u_22.1.2.2.2.2.2.2.1 u_22.1.2.2.2.2.2.2.2 u_22.2.1.2 bf kwf cut_25 0 400 (by first | with_reducible assumption | exact ⟨⟨by omega, by omega⟩, ⟨by omega, by omega⟩, ⟨by omega, by omega⟩, by omega, ⟨by omega, by omega⟩, ⟨by omega, by omega⟩, by omega, by omega⟩) hbf hkw xt_25 ⟨by omega, by omega⟩ ⟨by omega, by omega⟩) ci_X4_takeNumber qm_X6_88 ⟨Nat.le_of_ble_eq_true rfl, Nat.le_of_ble_eq_true rfl⟩ ⟨Nat.le_of_ble_eq_true rfl, Nat.le_of_ble_eq_true rfl⟩ [5, 6, 7] [0, 1, 2, 3, 4] rfl rfl rfl rfl rfl (dj rfl) 0 rfl rfl rfl hl.1 rfl (Nat.le_of_ble_eq_true rfl) dX6_readIce_101 (fun u_28 H locs hφ hP hD hS => ?_)
              obtain ⟨p_29, p_30⟩ : ((0 ≤ tp ∧ tp ≤ 900) ∧ (0 ≤ ln ∧ ln ≤ 900) ∧ (0 ≤ u_28.1.2.1 ∧ u_28.1.2.1 ≤ u_28.1.2.2.1) ∧ (u_28.1.2.2.1 ≤ ln) ∧ (0 ≤ u_28.1.2.2.2.1 ∧ u_28.1.2.2.2.1 ≤ 4) ∧ (-2147483648 ≤ u_28.1.2.2.2.2.1 ∧ u_28.1.2.2.2.2.1 < 2147483648) ∧ (-1 ≤ u_28.1.2.2.2.2.2.1 ∧ u_28.1.2.2.2.2.2.1 ≤ 24)) ∧ ((¬ (u_28.1.1 : Int) = -1 ∧ ∃ q9 : Int, xTn (tX bf ln) 0 400 cut_25 = .inr (q9, u_28.1.1) ∧ cut_25 < q9 ∧ RDX (tX bf ln) q9 u_28.1.2.1 u_28.1.2.2.1 u_28.1.2.2.2.1 u_28.1.2.2.2.2.1 u_28.1.2.2.2.2.2.1 u_28.2.1.2 ∧ (0 ≤ u_28.1.1 ∧ u_28.1.1 ≤ 400) ∧ u_28.1.2.2.2.2.2.2.1 = u_22.1.2.2.2.2.2.2.1 ∧ u_28.1.2.2.2.2.2.2.2 = u_22.1.2.2.2.2.2.2.2) ∨ ((u_28.1.1 : Int) = -1 ∧ xTn (tX bf ln) 0 400 cut_25 = .inl (u_28.1.2.2.2.2.2.2.1, u_28.1.2.2.2.2.2.2.2))) := hφ
              refine W.eq (g2 := F0 m 104 ls [.int (iZ u_28.1.1)]) rfl ?_
              rcases p_30 with ⟨qt_31, cut_31, st_31, lt_31, xt_31, rt_31, ut_31, vt_31⟩ | ⟨qt_31, st_31⟩
              ·
                obtain ⟨⟨ar_32, br_32⟩, cr_32, dr_32, er_32, fr_32, gr_32, hr_32⟩ := id xt_31
                refine lv_istore (lv' := [(4, .int (iZ u_28.1.1)), (3, .int (iZ u_16.1.1)), (2, .int (iZ u_10.1.1)), (1, .int (iZ (ni * 4))), (0, .ref hq)]) hx hb dX6_readIce_104 hl (bl rfl) rfl (fun ls hl => ?_)
                refine lv_iload hx hb dX6_readIce_106 (lv_at hl 0 rfl) ?_
                refine lv_iconst (v := iZ (-1)) hx hb dX6_readIce_108 rfl ?_
                refine lv_icmp_eq (tgt := 124) hx hb dX6_readIce_109 rfl (fun c_33 => ?_) (fun c_33 => ?_)
                ·
                  have c_33 := (zeq (x := iZ u_28.1.1) (y := iZ (-1)) rfl rfl ⟨by omega, by omega⟩ wn_m1).mp c_33
                  exact absurd c_33 (by omega)
                ·
                  have c_33 := mt (zeq (x := iZ u_28.1.1) (y := iZ (-1)) rfl rfl ⟨by omega, by omega⟩ wn_m1).mpr c_33
                  refine lv_aload_n hx hb dX6_readIce_112 rfl (lv_at hl 4 rfl) ?_
                  refine va_get (D := D) (ci := 6) (v := .ref hr1) (C := RX6) (T := TX6) (N := 3) hx hb hts iX6 hown hK hP 0 rfl rfl 0 (bl rfl) (hts _ qf_X6_9) (fun _ h => h) rfl dX6_readIce_113 ?_
                  refine lv_bipush (v := iZ 10) hx hb dX6_readIce_116 bip_10 ?_
                  refine CWV (As := [.int (iZ 10)]) (rest := []) (wc := _) (wr := [(hq, .inr (6, [.ref hr1, .ref hs, .int (iZ lt)])), (hf, .inl (k 1, 36, .inl f)), (hg, .inl (k 1, 32, .inl g)), (hs, .inr (5, [.ref hN, .ref hf, .ref hg, .int (iZ n), .int (iZ ni), .int (iZ lw), .int (iZ we)])), (hN, .inl (k 2, 6, .inr (.inl nf)))]) hx hb hml hown hts hKK hP hD hS hA (x_takeWord l D k hr1 tx kw tp ln u_28.1.2.1 u_28.1.2.2.1 u_28.1.2.2.2.1 u_28.1.2.2.2.2.1 u_28.1.2.2.2.2.2.1 u_28.1.2.2.2.2.2.2.1 u_28.1.2.2.2.2.2.2.2 u_28.2.1.2 bf kwf cut_31 10 (by first | with_reducible assumption | exact ⟨⟨by omega, by omega⟩, ⟨by omega, by omega⟩, ⟨by omega, by omega⟩, by omega, ⟨by omega, by omega⟩, ⟨by omega, by omega⟩, by omega, by omega⟩) hbf hkw xt_31 ⟨by omega, by omega⟩) ci_X4_takeWord qm_X6_85 ⟨Nat.le_of_ble_eq_true rfl, Nat.le_of_ble_eq_true rfl⟩ ⟨Nat.le_of_ble_eq_true rfl, Nat.le_of_ble_eq_true rfl⟩ [5, 6, 7] [0, 1, 2, 3, 4] rfl rfl rfl rfl rfl (dj rfl) 0 rfl rfl rfl hl.1 rfl (Nat.le_of_ble_eq_true rfl) dX6_readIce_118 (fun u_34 H locs hφ hP hD hS => ?_)
                  obtain ⟨p_35, p_36⟩ : ((0 ≤ tp ∧ tp ≤ 900) ∧ (0 ≤ ln ∧ ln ≤ 900) ∧ (0 ≤ u_34.1.2.1 ∧ u_34.1.2.1 ≤ u_34.1.2.2.1) ∧ (u_34.1.2.2.1 ≤ ln) ∧ (0 ≤ u_34.1.2.2.2.1 ∧ u_34.1.2.2.2.1 ≤ 4) ∧ (-2147483648 ≤ u_34.1.2.2.2.2.1 ∧ u_34.1.2.2.2.2.1 < 2147483648) ∧ (-1 ≤ u_34.1.2.2.2.2.2.1 ∧ u_34.1.2.2.2.2.2.1 ≤ 24)) ∧ (((u_34.1.1 : Int) = 1 ∧ ∃ q9 : Int, xTw (tX bf ln) 10 cut_31 = .inr q9 ∧ cut_31 < q9 ∧ RDX (tX bf ln) q9 u_34.1.2.1 u_34.1.2.2.1 u_34.1.2.2.2.1 u_34.1.2.2.2.2.1 u_34.1.2.2.2.2.2.1 u_34.2.1.2 ∧ u_34.1.2.2.2.2.2.2.1 = u_28.1.2.2.2.2.2.2.1 ∧ u_34.1.2.2.2.2.2.2.2 = u_28.1.2.2.2.2.2.2.2) ∨ ((u_34.1.1 : Int) = 0 ∧ xTw (tX bf ln) 10 cut_31 = .inl (u_34.1.2.2.2.2.2.2.1, u_34.1.2.2.2.2.2.2.2))) := hφ
                  refine W.eq (g2 := F0 m 121 ls [.int (iZ u_34.1.1)]) rfl ?_
                  rcases p_36 with ⟨qt_37, cut_37, st_37, lt_37, xt_37, ut_37, vt_37⟩ | ⟨qt_37, st_37⟩
                  ·
                    rw [qt_37]
                    obtain ⟨⟨ar_38, br_38⟩, cr_38, dr_38, er_38, fr_38, gr_38, hr_38⟩ := id xt_37
                    refine lv_if_ne (tgt := 126) hx hb dX6_readIce_121 rfl (fun _ => ?_) (fun c => absurd c (by decide))
                    refine lv_aload_n hx hb dX6_readIce_126 rfl (lv_at hl 4 rfl) ?_
                    refine va_get (D := D) (ci := 6) (v := .ref hr1) (C := RX6) (T := TX6) (N := 3) hx hb hts iX6 hown hK hP 0 rfl rfl 0 (bl rfl) (hts _ qf_X6_9) (fun _ h => h) rfl dX6_readIce_127 ?_
                    refine lv_iload hx hb dX6_readIce_130 (lv_at hl 0 rfl) ?_
                    refine lv_sipush (v := iZ 400) hx hb dX6_readIce_132 sip_400 ?_
                    refine CWV (As := [.int (iZ u_28.1.1), .int (iZ 400)]) (rest := []) (wc := _) (wr := [(hq, .inr (6, [.ref hr1, .ref hs, .int (iZ lt)])), (hf, .inl (k 1, 36, .inl f)), (hg, .inl (k 1, 32, .inl g)), (hs, .inr (5, [.ref hN, .ref hf, .ref hg, .int (iZ n), .int (iZ ni), .int (iZ lw), .int (iZ we)])), (hN, .inl (k 2, 6, .inr (.inl nf)))]) hx hb hml hown hts hKK hP hD hS hA (x_takeNumber l D k hr1 tx kw tp ln u_34.1.2.1 u_34.1.2.2.1 u_34.1.2.2.2.1 u_34.1.2.2.2.2.1 u_34.1.2.2.2.2.2.1 u_34.1.2.2.2.2.2.2.1 u_34.1.2.2.2.2.2.2.2 u_34.2.1.2 bf kwf cut_37 u_28.1.1 400 (by first | with_reducible assumption | exact ⟨⟨by omega, by omega⟩, ⟨by omega, by omega⟩, ⟨by omega, by omega⟩, by omega, ⟨by omega, by omega⟩, ⟨by omega, by omega⟩, by omega, by omega⟩) hbf hkw xt_37 ⟨by omega, by omega⟩ ⟨by omega, by omega⟩) ci_X4_takeNumber qm_X6_88 ⟨Nat.le_of_ble_eq_true rfl, Nat.le_of_ble_eq_true rfl⟩ ⟨Nat.le_of_ble_eq_true rfl, Nat.le_of_ble_eq_true rfl⟩ [5, 6, 7] [0, 1, 2, 3, 4] rfl rfl rfl rfl rfl (dj rfl) 0 rfl rfl rfl hl.1 rfl (Nat.le_of_ble_eq_true rfl) dX6_readIce_135 (fun u_40 H locs hφ hP hD hS => ?_)
                    obtain ⟨p_41, p_42⟩ : ((0 ≤ tp ∧ tp ≤ 900) ∧ (0 ≤ ln ∧ ln ≤ 900) ∧ (0 ≤ u_40.1.2.1 ∧ u_40.1.2.1 ≤ u_40.1.2.2.1) ∧ (u_40.1.2.2.1 ≤ ln) ∧ (0 ≤ u_40.1.2.2.2.1 ∧ u_40.1.2.2.2.1 ≤ 4) ∧ (-2147483648 ≤ u_40.1.2.2.2.2.1 ∧ u_40.1.2.2.2.2.1 < 2147483648) ∧ (-1 ≤ u_40.1.2.2.2.2.2.1 ∧ u_40.1.2.2.2.2.2.1 ≤ 24)) ∧ ((¬ (u_40.1.1 : Int) = -1 ∧ ∃ q9 : Int, xTn (tX bf ln) u_28.1.1 400 cut_37 = .inr (q9, u_40.1.1) ∧ cut_37 < q9 ∧ RDX (tX bf ln) q9 u_40.1.2.1 u_40.1.2.2.1 u_40.1.2.2.2.1 u_40.1.2.2.2.2.1 u_40.1.2.2.2.2.2.1 u_40.2.1.2 ∧ (u_28.1.1 ≤ u_40.1.1 ∧ u_40.1.1 ≤ 400) ∧ u_40.1.2.2.2.2.2.2.1 = u_34.1.2.2.2.2.2.2.1 ∧ u_40.1.2.2.2.2.2.2.2 = u_34.1.2.2.2.2.2.2.2) ∨ ((u_40.1.1 : Int) = -1 ∧ xTn (tX bf ln) u_28.1.1 400 cut_37 = .inl (u_40.1.2.2.2.2.2.2.1, u_40.1.2.2.2.2.2.2.2))) := hφ
                    refine W.eq (g2 := F0 m 138 ls [.int (iZ u_40.1.1)]) rfl ?_
                    rcases p_42 with ⟨qt_43, cut_43, st_43, lt_43, xt_43, rt_43, ut_43, vt_43⟩ | ⟨qt_43, st_43⟩
                    ·
                      obtain ⟨⟨ar_44, br_44⟩, cr_44, dr_44, er_44, fr_44, gr_44, hr_44⟩ := id xt_43
                      refine lv_istore (lv' := [(5, .int (iZ u_40.1.1)), (4, .int (iZ u_28.1.1)), (3, .int (iZ u_16.1.1)), (2, .int (iZ u_10.1.1)), (1, .int (iZ (ni * 4))), (0, .ref hq)]) hx hb dX6_readIce_138 hl (bl rfl) rfl (fun ls hl => ?_)
                      refine lv_iload hx hb dX6_readIce_140 (lv_at hl 0 rfl) ?_
                      refine lv_iconst (v := iZ (-1)) hx hb dX6_readIce_142 rfl ?_
                      refine lv_icmp_eq (tgt := 158) hx hb dX6_readIce_143 rfl (fun c_45 => ?_) (fun c_45 => ?_)
                      ·
                        have c_45 := (zeq (x := iZ u_40.1.1) (y := iZ (-1)) rfl rfl ⟨by omega, by omega⟩ wn_m1).mp c_45
                        exact absurd c_45 (by omega)
                      ·
                        have c_45 := mt (zeq (x := iZ u_40.1.1) (y := iZ (-1)) rfl rfl ⟨by omega, by omega⟩ wn_m1).mpr c_45
                        refine lv_aload_n hx hb dX6_readIce_146 rfl (lv_at hl 5 rfl) ?_
                        refine va_get (D := D) (ci := 6) (v := .ref hr1) (C := RX6) (T := TX6) (N := 3) hx hb hts iX6 hown hK hP 0 rfl rfl 0 (bl rfl) (hts _ qf_X6_9) (fun _ h => h) rfl dX6_readIce_147 ?_
                        refine lv_bipush (v := iZ 59) hx hb dX6_readIce_150 bip_59 ?_
                        refine CWV (As := [.int (iZ 59)]) (rest := []) (wc := _) (wr := [(hq, .inr (6, [.ref hr1, .ref hs, .int (iZ lt)])), (hf, .inl (k 1, 36, .inl f)), (hg, .inl (k 1, 32, .inl g)), (hs, .inr (5, [.ref hN, .ref hf, .ref hg, .int (iZ n), .int (iZ ni), .int (iZ lw), .int (iZ we)])), (hN, .inl (k 2, 6, .inr (.inl nf)))]) hx hb hml hown hts hKK hP hD hS hA (x_takeSign l D k hr1 tx kw tp ln u_40.1.2.1 u_40.1.2.2.1 u_40.1.2.2.2.1 u_40.1.2.2.2.2.1 u_40.1.2.2.2.2.2.1 u_40.1.2.2.2.2.2.2.1 u_40.1.2.2.2.2.2.2.2 u_40.2.1.2 bf kwf cut_43 59 (by first | with_reducible assumption | exact ⟨⟨by omega, by omega⟩, ⟨by omega, by omega⟩, ⟨by omega, by omega⟩, by omega, ⟨by omega, by omega⟩, ⟨by omega, by omega⟩, by omega, by omega⟩) hbf hkw xt_43 ⟨by omega, by omega⟩) ci_X4_takeSign qm_X6_67 ⟨Nat.le_of_ble_eq_true rfl, Nat.le_of_ble_eq_true rfl⟩ ⟨Nat.le_of_ble_eq_true rfl, Nat.le_of_ble_eq_true rfl⟩ [5, 6, 7] [0, 1, 2, 3, 4] rfl rfl rfl rfl rfl (dj rfl) 0 rfl rfl rfl hl.1 rfl (Nat.le_of_ble_eq_true rfl) dX6_readIce_152 (fun u_46 H locs hφ hP hD hS => ?_)
                        obtain ⟨p_47, p_48⟩ : ((0 ≤ tp ∧ tp ≤ 900) ∧ (0 ≤ ln ∧ ln ≤ 900) ∧ (0 ≤ u_46.1.2.1 ∧ u_46.1.2.1 ≤ u_46.1.2.2.1) ∧ (u_46.1.2.2.1 ≤ ln) ∧ (0 ≤ u_46.1.2.2.2.1 ∧ u_46.1.2.2.2.1 ≤ 4) ∧ (-2147483648 ≤ u_46.1.2.2.2.2.1 ∧ u_46.1.2.2.2.2.1 < 2147483648) ∧ (-1 ≤ u_46.1.2.2.2.2.2.1 ∧ u_46.1.2.2.2.2.2.1 ≤ 24)) ∧ (((u_46.1.1 : Int) = 1 ∧ ∃ q9 : Int, xTs (tX bf ln) 59 cut_43 = .inr q9 ∧ cut_43 < q9 ∧ RDX (tX bf ln) q9 u_46.1.2.1 u_46.1.2.2.1 u_46.1.2.2.2.1 u_46.1.2.2.2.2.1 u_46.1.2.2.2.2.2.1 u_46.2.1.2 ∧ u_46.1.2.2.2.2.2.2.1 = u_40.1.2.2.2.2.2.2.1 ∧ u_46.1.2.2.2.2.2.2.2 = u_40.1.2.2.2.2.2.2.2) ∨ ((u_46.1.1 : Int) = 0 ∧ xTs (tX bf ln) 59 cut_43 = .inl (u_46.1.2.2.2.2.2.2.1, u_46.1.2.2.2.2.2.2.2))) := hφ
                        refine W.eq (g2 := F0 m 155 ls [.int (iZ u_46.1.1)]) rfl ?_
                        rcases p_48 with ⟨qt_49, cut_49, st_49, lt_49, xt_49, ut_49, vt_49⟩ | ⟨qt_49, st_49⟩
                        ·
                          rw [qt_49]
                          obtain ⟨⟨ar_50, br_50⟩, cr_50, dr_50, er_50, fr_50, gr_50, hr_50⟩ := id xt_49
                          refine lv_if_ne (tgt := 160) hx hb dX6_readIce_155 rfl (fun _ => ?_) (fun c => absurd c (by decide))
                          refine lv_aload_n hx hb dX6_readIce_160 rfl (lv_at hl 5 rfl) ?_
                          refine va_get (D := D) (ci := 6) (v := .ref hs) (C := RX6) (T := TX6) (N := 3) hx hb hts iX6 hown hK hP 0 rfl rfl 1 (bl rfl) (hts _ qf_X6_15) (fun _ h => h) rfl dX6_readIce_161 ?_
                          refine va_get (D := D) (ci := 5) (v := .ref hg) (C := RX5) (T := TX5) (N := 7) hx hb hts iX5 hown hK hP 3 rfl rfl 2 (bl rfl) (hts _ qf_X6_103) (fun _ h => h) rfl dX6_readIce_164 ?_
                          refine lv_iload_n hx hb dX6_readIce_167 rfl (lv_at hl 4 rfl) ?_
                          refine lv_iconst (v := iZ 0) hx hb dX6_readIce_168 rfl ?_
                          refine lv_iadd hx hb dX6_readIce_169 ?_
                          refine lv_topi (fun x_52 ex_52 => ?_)
                          obtain rfl : x_52 = iZ ((ni * 4) + 0) := ex_52.trans (iZ_add (ni * 4) 0)
                          refine lv_iload_n hx hb dX6_readIce_170 rfl (lv_at hl 3 rfl) ?_
                          refine va_iast hx hb hK hP hD hS 2 1 rfl rfl (zin (e := ((ni * 4) + 0)) (n := 32) ⟨by omega, by omega⟩ (bl rfl)) dX6_readIce_171 (fun H locs hP hD hS => ?_)
                          obtain ⟨f_53, hf_53⟩ : ∃ gg9, gg9 = upd g (iZ ((ni * 4) + 0)).toNatClampNeg (iZ u_10.1.1) := ⟨_, rfl⟩
                          rw [← hf_53] at hP hD
                          refine lv_aload_n hx hb dX6_readIce_172 rfl (lv_at hl 5 rfl) ?_
                          refine va_get (D := D) (ci := 6) (v := .ref hs) (C := RX6) (T := TX6) (N := 3) hx hb hts iX6 hown hK hP 0 rfl rfl 1 (bl rfl) (hts _ qf_X6_15) (fun _ h => h) rfl dX6_readIce_173 ?_
                          refine va_get (D := D) (ci := 5) (v := .ref hg) (C := RX5) (T := TX5) (N := 7) hx hb hts iX5 hown hK hP 3 rfl rfl 2 (bl rfl) (hts _ qf_X6_103) (fun _ h => h) rfl dX6_readIce_176 ?_
                          refine lv_iload_n hx hb dX6_readIce_179 rfl (lv_at hl 4 rfl) ?_
                          refine lv_iconst (v := iZ 1) hx hb dX6_readIce_180 rfl ?_
                          refine lv_iadd hx hb dX6_readIce_181 ?_
                          refine lv_topi (fun x_54 ex_54 => ?_)
                          obtain rfl : x_54 = iZ ((ni * 4) + 1) := ex_54.trans (iZ_add (ni * 4) 1)
                          refine lv_iload_n hx hb dX6_readIce_182 rfl (lv_at hl 2 rfl) ?_
                          refine va_iast hx hb hK hP hD hS 2 1 rfl rfl (zin (e := ((ni * 4) + 1)) (n := 32) ⟨by omega, by omega⟩ (bl rfl)) dX6_readIce_183 (fun H locs hP hD hS => ?_)
                          obtain ⟨f_55, hf_55⟩ : ∃ gg9, gg9 = upd f_53 (iZ ((ni * 4) + 1)).toNatClampNeg (iZ u_16.1.1) := ⟨_, rfl⟩
                          rw [← hf_55] at hP hD
                          refine lv_aload_n hx hb dX6_readIce_184 rfl (lv_at hl 5 rfl) ?_
                          refine va_get (D := D) (ci := 6) (v := .ref hs) (C := RX6) (T := TX6) (N := 3) hx hb hts iX6 hown hK hP 0 rfl rfl 1 (bl rfl) (hts _ qf_X6_15) (fun _ h => h) rfl dX6_readIce_185 ?_
                          refine va_get (D := D) (ci := 5) (v := .ref hg) (C := RX5) (T := TX5) (N := 7) hx hb hts iX5 hown hK hP 3 rfl rfl 2 (bl rfl) (hts _ qf_X6_103) (fun _ h => h) rfl dX6_readIce_188 ?_
                          refine lv_iload_n hx hb dX6_readIce_191 rfl (lv_at hl 4 rfl) ?_
                          refine lv_iconst (v := iZ 2) hx hb dX6_readIce_192 rfl ?_
                          refine lv_iadd hx hb dX6_readIce_193 ?_
                          refine lv_topi (fun x_56 ex_56 => ?_)
                          obtain rfl : x_56 = iZ ((ni * 4) + 2) := ex_56.trans (iZ_add (ni * 4) 2)
                          refine lv_iload hx hb dX6_readIce_194 (lv_at hl 1 rfl) ?_
                          refine va_iast hx hb hK hP hD hS 2 1 rfl rfl (zin (e := ((ni * 4) + 2)) (n := 32) ⟨by omega, by omega⟩ (bl rfl)) dX6_readIce_196 (fun H locs hP hD hS => ?_)
                          obtain ⟨f_57, hf_57⟩ : ∃ gg9, gg9 = upd f_55 (iZ ((ni * 4) + 2)).toNatClampNeg (iZ u_28.1.1) := ⟨_, rfl⟩
                          rw [← hf_57] at hP hD
                          refine lv_aload_n hx hb dX6_readIce_197 rfl (lv_at hl 5 rfl) ?_
                          refine va_get (D := D) (ci := 6) (v := .ref hs) (C := RX6) (T := TX6) (N := 3) hx hb hts iX6 hown hK hP 0 rfl rfl 1 (bl rfl) (hts _ qf_X6_15) (fun _ h => h) rfl dX6_readIce_198 ?_
                          refine va_get (D := D) (ci := 5) (v := .ref hg) (C := RX5) (T := TX5) (N := 7) hx hb hts iX5 hown hK hP 3 rfl rfl 2 (bl rfl) (hts _ qf_X6_103) (fun _ h => h) rfl dX6_readIce_201 ?_
                          refine lv_iload_n hx hb dX6_readIce_204 rfl (lv_at hl 4 rfl) ?_
                          refine lv_iconst (v := iZ 3) hx hb dX6_readIce_205 rfl ?_
                          refine lv_iadd hx hb dX6_readIce_206 ?_
                          refine lv_topi (fun x_58 ex_58 => ?_)
                          obtain rfl : x_58 = iZ ((ni * 4) + 3) := ex_58.trans (iZ_add (ni * 4) 3)
                          refine lv_iload hx hb dX6_readIce_207 (lv_at hl 0 rfl) ?_
                          refine va_iast hx hb hK hP hD hS 2 1 rfl rfl (zin (e := ((ni * 4) + 3)) (n := 32) ⟨by omega, by omega⟩ (bl rfl)) dX6_readIce_209 (fun H locs hP hD hS => ?_)
                          obtain ⟨f_59, hf_59⟩ : ∃ gg9, gg9 = upd f_57 (iZ ((ni * 4) + 3)).toNatClampNeg (iZ u_40.1.1) := ⟨_, rfl⟩
                          rw [← hf_59] at hP hD
                          refine lv_aload_n hx hb dX6_readIce_210 rfl (lv_at hl 5 rfl) ?_
                          refine va_get (D := D) (ci := 6) (v := .ref hs) (C := RX6) (T := TX6) (N := 3) hx hb hts iX6 hown hK hP 0 rfl rfl 1 (bl rfl) (hts _ qf_X6_15) (fun _ h => h) rfl dX6_readIce_211 ?_
                          refine lv_dup hx hb dX6_readIce_214 rfl ?_
                          refine va_get (D := D) (ci := 5) (v := .int (iZ ni)) (C := RX5) (T := TX5) (N := 7) hx hb hts iX5 hown hK hP 3 rfl rfl 4 (bl rfl) (hts _ qf_X6_96) (fun _ h => h) rfl dX6_readIce_215 ?_
                          refine lv_iconst (v := iZ 1) hx hb dX6_readIce_218 rfl ?_
                          refine lv_iadd hx hb dX6_readIce_219 ?_
                          refine lv_topi (fun x_60 ex_60 => ?_)
                          obtain rfl : x_60 = iZ (ni + 1) := ex_60.trans (iZ_add ni 1)
                          refine va_put (D := D) (ci := 5) (v := .int (iZ (ni + 1))) (ty := .int) (C := RX5) (T := TX5) (N := 7) hx hb hts iX5 tyX5 tyX5_ok nmX5 hown hK hP hD hS 3 rfl rfl 4 (bl rfl) (hts _ qf_X6_96) (fun _ h => h) rfl (by decide +kernel) rfl rfl (Nat.le_of_ble_eq_true rfl) dX6_readIce_220 (fun H locs hP hD hS => ?_)
                          refine lv_iconst (v := iZ 1) hx hb dX6_readIce_223 rfl ?_
                          exact EWz hx hb hr hlocks hS ((1, u_46.1.2.1, u_46.1.2.2.1, u_46.1.2.2.2.1, u_46.1.2.2.2.2.1, u_46.1.2.2.2.2.2.1, u_46.1.2.2.2.2.2.2.1, u_46.1.2.2.2.2.2.2.2, (ni + 1)), (0, u_46.2.1.2), f_59, ()) rfl rfl ⟨(show (0 ≤ tp ∧ tp ≤ 900) ∧ (0 ≤ ln ∧ ln ≤ 900) ∧ (0 ≤ u_46.1.2.1 ∧ u_46.1.2.1 ≤ u_46.1.2.2.1) ∧ (u_46.1.2.2.1 ≤ ln) ∧ (0 ≤ u_46.1.2.2.2.1 ∧ u_46.1.2.2.2.1 ≤ 4) ∧ (-2147483648 ≤ u_46.1.2.2.2.2.1 ∧ u_46.1.2.2.2.2.1 < 2147483648) ∧ (-1 ≤ u_46.1.2.2.2.2.2.1 ∧ u_46.1.2.2.2.2.2.1 ≤ 24) from (by first | with_reducible assumption | exact ⟨⟨by omega, by omega⟩, ⟨by omega, by omega⟩, ⟨by omega, by omega⟩, by omega, ⟨by omega, by omega⟩, ⟨by omega, by omega⟩, by omega, by omega⟩)), (show 0 ≤ (ni + 1) ∧ (ni + 1) ≤ 8 from ⟨by omega, by omega⟩), (show ((1 : Int) = 1 ∧ ∃ (q9 : Int) (G9 : Int → Int), xIce (tX bf ln) N n ni G cu = .inr (q9, G9) ∧ cu < q9 ∧ RDX (tX bf ln) q9 u_46.1.2.1 u_46.1.2.2.1 u_46.1.2.2.2.1 u_46.1.2.2.2.2.1 u_46.1.2.2.2.2.2.1 u_46.2.1.2 ∧ xRw f_59 G9 ((ni + 1) * 4) ∧ (ni + 1) = ni + 1 ∧ u_46.1.2.2.2.2.2.2.1 = fk ∧ u_46.1.2.2.2.2.2.2.2 = fp) ∨ ((1 : Int) = 0 ∧ xIce (tX bf ln) N n ni G cu = .inl (u_46.1.2.2.2.2.2.2.1, u_46.1.2.2.2.2.2.2.2)) from (Or.inl ⟨rfl, cut_49, xUp (xUp (xUp (xUp G ((ni * 4) + 0) u_10.1.1) ((ni * 4) + 1) u_16.1.1) ((ni * 4) + 2) u_28.1.1) ((ni * 4) + 3) u_40.1.1, (xIce_6 (by omega) st_13 st_19 st_25 st_31 st_37 st_43).trans (xBn_r st_49), by omega, xt_49, xIce_rw hG ⟨by omega, by omega⟩ hf_53 hf_55 hf_57 hf_59 ⟨by omega, by omega⟩ ⟨by omega, by omega⟩ ⟨by omega, by omega⟩ ⟨by omega, by omega⟩, rfl, by omega, by omega⟩))⟩ (hP.sub [0, 5, 6, 7, 3, 4, 1, 2] rfl) (hD.sub [0, 5, 6, 7, 3, 4, 1, 2] rfl rfl) dX6_readIce_224
                        ·
                          rw [qt_49]
                          refine lv_if_ne (tgt := 160) hx hb dX6_readIce_155 rfl (fun c => absurd (by decide) c) (fun _ => ?_)
                          refine lv_iconst (v := iZ 0) hx hb dX6_readIce_158 rfl ?_
                          exact EWz hx hb hr hlocks hS ((0, u_46.1.2.1, u_46.1.2.2.1, u_46.1.2.2.2.1, u_46.1.2.2.2.2.1, u_46.1.2.2.2.2.2.1, u_46.1.2.2.2.2.2.2.1, u_46.1.2.2.2.2.2.2.2, ni), (0, u_46.2.1.2), g, ()) rfl rfl ⟨(show (0 ≤ tp ∧ tp ≤ 900) ∧ (0 ≤ ln ∧ ln ≤ 900) ∧ (0 ≤ u_46.1.2.1 ∧ u_46.1.2.1 ≤ u_46.1.2.2.1) ∧ (u_46.1.2.2.1 ≤ ln) ∧ (0 ≤ u_46.1.2.2.2.1 ∧ u_46.1.2.2.2.1 ≤ 4) ∧ (-2147483648 ≤ u_46.1.2.2.2.2.1 ∧ u_46.1.2.2.2.2.1 < 2147483648) ∧ (-1 ≤ u_46.1.2.2.2.2.2.1 ∧ u_46.1.2.2.2.2.2.1 ≤ 24) from (by first | with_reducible assumption | exact ⟨⟨by omega, by omega⟩, ⟨by omega, by omega⟩, ⟨by omega, by omega⟩, by omega, ⟨by omega, by omega⟩, ⟨by omega, by omega⟩, by omega, by omega⟩)), (show 0 ≤ ni ∧ ni ≤ 8 from ⟨by omega, by omega⟩), (show ((0 : Int) = 1 ∧ ∃ (q9 : Int) (G9 : Int → Int), xIce (tX bf ln) N n ni G cu = .inr (q9, G9) ∧ cu < q9 ∧ RDX (tX bf ln) q9 u_46.1.2.1 u_46.1.2.2.1 u_46.1.2.2.2.1 u_46.1.2.2.2.2.1 u_46.1.2.2.2.2.2.1 u_46.2.1.2 ∧ xRw g G9 (ni * 4) ∧ ni = ni + 1 ∧ u_46.1.2.2.2.2.2.2.1 = fk ∧ u_46.1.2.2.2.2.2.2.2 = fp) ∨ ((0 : Int) = 0 ∧ xIce (tX bf ln) N n ni G cu = .inl (u_46.1.2.2.2.2.2.2.1, u_46.1.2.2.2.2.2.2.2)) from (Or.inr ⟨rfl, (xIce_6 (G := G) (by omega) st_13 st_19 st_25 st_31 st_37 st_43).trans (xBn_l st_49)⟩))⟩ (hP.sub [0, 5, 6, 7, 3, 4, 1, 2] rfl) (hD.sub [0, 5, 6, 7, 3, 4, 1, 2] rfl rfl) dX6_readIce_159
                    ·
                      rw [qt_43]
                      refine lv_istore (lv' := [(5, .int (iZ (-1))), (4, .int (iZ u_28.1.1)), (3, .int (iZ u_16.1.1)), (2, .int (iZ u_10.1.1)), (1, .int (iZ (ni * 4))), (0, .ref hq)]) hx hb dX6_readIce_138 hl (bl rfl) rfl (fun ls hl => ?_)
                      refine lv_iload hx hb dX6_readIce_140 (lv_at hl 0 rfl) ?_
                      refine lv_iconst (v := iZ (-1)) hx hb dX6_readIce_142 rfl ?_
                      refine lv_icmp_eq (tgt := 158) hx hb dX6_readIce_143 rfl (fun _ => ?_) (fun c => absurd (by decide) c)
                      refine lv_iconst (v := iZ 0) hx hb dX6_readIce_158 rfl ?_
                      exact EWz hx hb hr hlocks hS ((0, u_40.1.2.1, u_40.1.2.2.1, u_40.1.2.2.2.1, u_40.1.2.2.2.2.1, u_40.1.2.2.2.2.2.1, u_40.1.2.2.2.2.2.2.1, u_40.1.2.2.2.2.2.2.2, ni), (0, u_40.2.1.2), g, ()) rfl rfl ⟨(show (0 ≤ tp ∧ tp ≤ 900) ∧ (0 ≤ ln ∧ ln ≤ 900) ∧ (0 ≤ u_40.1.2.1 ∧ u_40.1.2.1 ≤ u_40.1.2.2.1) ∧ (u_40.1.2.2.1 ≤ ln) ∧ (0 ≤ u_40.1.2.2.2.1 ∧ u_40.1.2.2.2.1 ≤ 4) ∧ (-2147483648 ≤ u_40.1.2.2.2.2.1 ∧ u_40.1.2.2.2.2.1 < 2147483648) ∧ (-1 ≤ u_40.1.2.2.2.2.2.1 ∧ u_40.1.2.2.2.2.2.1 ≤ 24) from (by first | with_reducible assumption | exact ⟨⟨by omega, by omega⟩, ⟨by omega, by omega⟩, ⟨by omega, by omega⟩, by omega, ⟨by omega, by omega⟩, ⟨by omega, by omega⟩, by omega, by omega⟩)), (show 0 ≤ ni ∧ ni ≤ 8 from ⟨by omega, by omega⟩), (show ((0 : Int) = 1 ∧ ∃ (q9 : Int) (G9 : Int → Int), xIce (tX bf ln) N n ni G cu = .inr (q9, G9) ∧ cu < q9 ∧ RDX (tX bf ln) q9 u_40.1.2.1 u_40.1.2.2.1 u_40.1.2.2.2.1 u_40.1.2.2.2.2.1 u_40.1.2.2.2.2.2.1 u_40.2.1.2 ∧ xRw g G9 (ni * 4) ∧ ni = ni + 1 ∧ u_40.1.2.2.2.2.2.2.1 = fk ∧ u_40.1.2.2.2.2.2.2.2 = fp) ∨ ((0 : Int) = 0 ∧ xIce (tX bf ln) N n ni G cu = .inl (u_40.1.2.2.2.2.2.2.1, u_40.1.2.2.2.2.2.2.2)) from (Or.inr ⟨rfl, xIce_l5 (by omega) st_13 st_19 st_25 st_31 st_37 st_43⟩))⟩ (hP.sub [0, 5, 6, 7, 3, 4, 1, 2] rfl) (hD.sub [0, 5, 6, 7, 3, 4, 1, 2] rfl rfl) dX6_readIce_159
                  ·
                    rw [qt_37]
                    refine lv_if_ne (tgt := 126) hx hb dX6_readIce_121 rfl (fun c => absurd (by decide) c) (fun _ => ?_)
                    refine lv_iconst (v := iZ 0) hx hb dX6_readIce_124 rfl ?_
                    exact EWz hx hb hr hlocks hS ((0, u_34.1.2.1, u_34.1.2.2.1, u_34.1.2.2.2.1, u_34.1.2.2.2.2.1, u_34.1.2.2.2.2.2.1, u_34.1.2.2.2.2.2.2.1, u_34.1.2.2.2.2.2.2.2, ni), (0, u_34.2.1.2), g, ()) rfl rfl ⟨(show (0 ≤ tp ∧ tp ≤ 900) ∧ (0 ≤ ln ∧ ln ≤ 900) ∧ (0 ≤ u_34.1.2.1 ∧ u_34.1.2.1 ≤ u_34.1.2.2.1) ∧ (u_34.1.2.2.1 ≤ ln) ∧ (0 ≤ u_34.1.2.2.2.1 ∧ u_34.1.2.2.2.1 ≤ 4) ∧ (-2147483648 ≤ u_34.1.2.2.2.2.1 ∧ u_34.1.2.2.2.2.1 < 2147483648) ∧ (-1 ≤ u_34.1.2.2.2.2.2.1 ∧ u_34.1.2.2.2.2.2.1 ≤ 24) from (by first | with_reducible assumption | exact ⟨⟨by omega, by omega⟩, ⟨by omega, by omega⟩, ⟨by omega, by omega⟩, by omega, ⟨by omega, by omega⟩, ⟨by omega, by omega⟩, by omega, by omega⟩)), (show 0 ≤ ni ∧ ni ≤ 8 from ⟨by omega, by omega⟩), (show ((0 : Int) = 1 ∧ ∃ (q9 : Int) (G9 : Int → Int), xIce (tX bf ln) N n ni G cu = .inr (q9, G9) ∧ cu < q9 ∧ RDX (tX bf ln) q9 u_34.1.2.1 u_34.1.2.2.1 u_34.1.2.2.2.1 u_34.1.2.2.2.2.1 u_34.1.2.2.2.2.2.1 u_34.2.1.2 ∧ xRw g G9 (ni * 4) ∧ ni = ni + 1 ∧ u_34.1.2.2.2.2.2.2.1 = fk ∧ u_34.1.2.2.2.2.2.2.2 = fp) ∨ ((0 : Int) = 0 ∧ xIce (tX bf ln) N n ni G cu = .inl (u_34.1.2.2.2.2.2.2.1, u_34.1.2.2.2.2.2.2.2)) from (Or.inr ⟨rfl, xIce_l4 (by omega) st_13 st_19 st_25 st_31 st_37⟩))⟩ (hP.sub [0, 5, 6, 7, 3, 4, 1, 2] rfl) (hD.sub [0, 5, 6, 7, 3, 4, 1, 2] rfl rfl) dX6_readIce_125
              ·
                rw [qt_31]
                refine lv_istore (lv' := [(4, .int (iZ (-1))), (3, .int (iZ u_16.1.1)), (2, .int (iZ u_10.1.1)), (1, .int (iZ (ni * 4))), (0, .ref hq)]) hx hb dX6_readIce_104 hl (bl rfl) rfl (fun ls hl => ?_)
                refine lv_iload hx hb dX6_readIce_106 (lv_at hl 0 rfl) ?_
                refine lv_iconst (v := iZ (-1)) hx hb dX6_readIce_108 rfl ?_
                refine lv_icmp_eq (tgt := 124) hx hb dX6_readIce_109 rfl (fun _ => ?_) (fun c => absurd (by decide) c)
                refine lv_iconst (v := iZ 0) hx hb dX6_readIce_124 rfl ?_
                exact EWz hx hb hr hlocks hS ((0, u_28.1.2.1, u_28.1.2.2.1, u_28.1.2.2.2.1, u_28.1.2.2.2.2.1, u_28.1.2.2.2.2.2.1, u_28.1.2.2.2.2.2.2.1, u_28.1.2.2.2.2.2.2.2, ni), (0, u_28.2.1.2), g, ()) rfl rfl ⟨(show (0 ≤ tp ∧ tp ≤ 900) ∧ (0 ≤ ln ∧ ln ≤ 900) ∧ (0 ≤ u_28.1.2.1 ∧ u_28.1.2.1 ≤ u_28.1.2.2.1) ∧ (u_28.1.2.2.1 ≤ ln) ∧ (0 ≤ u_28.1.2.2.2.1 ∧ u_28.1.2.2.2.1 ≤ 4) ∧ (-2147483648 ≤ u_28.1.2.2.2.2.1 ∧ u_28.1.2.2.2.2.1 < 2147483648) ∧ (-1 ≤ u_28.1.2.2.2.2.2.1 ∧ u_28.1.2.2.2.2.2.1 ≤ 24) from (by first | with_reducible assumption | exact ⟨⟨by omega, by omega⟩, ⟨by omega, by omega⟩, ⟨by omega, by omega⟩, by omega, ⟨by omega, by omega⟩, ⟨by omega, by omega⟩, by omega, by omega⟩)), (show 0 ≤ ni ∧ ni ≤ 8 from ⟨by omega, by omega⟩), (show ((0 : Int) = 1 ∧ ∃ (q9 : Int) (G9 : Int → Int), xIce (tX bf ln) N n ni G cu = .inr (q9, G9) ∧ cu < q9 ∧ RDX (tX bf ln) q9 u_28.1.2.1 u_28.1.2.2.1 u_28.1.2.2.2.1 u_28.1.2.2.2.2.1 u_28.1.2.2.2.2.2.1 u_28.2.1.2 ∧ xRw g G9 (ni * 4) ∧ ni = ni + 1 ∧ u_28.1.2.2.2.2.2.2.1 = fk ∧ u_28.1.2.2.2.2.2.2.2 = fp) ∨ ((0 : Int) = 0 ∧ xIce (tX bf ln) N n ni G cu = .inl (u_28.1.2.2.2.2.2.2.1, u_28.1.2.2.2.2.2.2.2)) from (Or.inr ⟨rfl, xIce_l3 (by omega) st_13 st_19 st_25 st_31⟩))⟩ (hP.sub [0, 5, 6, 7, 3, 4, 1, 2] rfl) (hD.sub [0, 5, 6, 7, 3, 4, 1, 2] rfl rfl) dX6_readIce_125
            ·
              rw [qt_25]
              refine lv_if_ne (tgt := 93) hx hb dX6_readIce_88 rfl (fun c => absurd (by decide) c) (fun _ => ?_)
              refine lv_iconst (v := iZ 0) hx hb dX6_readIce_91 rfl ?_
              exact EWz hx hb hr hlocks hS ((0, u_22.1.2.1, u_22.1.2.2.1, u_22.1.2.2.2.1, u_22.1.2.2.2.2.1, u_22.1.2.2.2.2.2.1, u_22.1.2.2.2.2.2.2.1, u_22.1.2.2.2.2.2.2.2, ni), (0, u_22.2.1.2), g, ()) rfl rfl ⟨(show (0 ≤ tp ∧ tp ≤ 900) ∧ (0 ≤ ln ∧ ln ≤ 900) ∧ (0 ≤ u_22.1.2.1 ∧ u_22.1.2.1 ≤ u_22.1.2.2.1) ∧ (u_22.1.2.2.1 ≤ ln) ∧ (0 ≤ u_22.1.2.2.2.1 ∧ u_22.1.2.2.2.1 ≤ 4) ∧ (-2147483648 ≤ u_22.1.2.2.2.2.1 ∧ u_22.1.2.2.2.2.1 < 2147483648) ∧ (-1 ≤ u_22.1.2.2.2.2.2.1 ∧ u_22.1.2.2.2.2.2.1 ≤ 24) from (by first | with_reducible assumption | exact ⟨⟨by omega, by omega⟩, ⟨by omega, by omega⟩, ⟨by omega, by omega⟩, by omega, ⟨by omega, by omega⟩, ⟨by omega, by omega⟩, by omega, by omega⟩)), (show 0 ≤ ni ∧ ni ≤ 8 from ⟨by omega, by omega⟩), (show ((0 : Int) = 1 ∧ ∃ (q9 : Int) (G9 : Int → Int), xIce (tX bf ln) N n ni G cu = .inr (q9, G9) ∧ cu < q9 ∧ RDX (tX bf ln) q9 u_22.1.2.1 u_22.1.2.2.1 u_22.1.2.2.2.1 u_22.1.2.2.2.2.1 u_22.1.2.2.2.2.2.1 u_22.2.1.2 ∧ xRw g G9 (ni * 4) ∧ ni = ni + 1 ∧ u_22.1.2.2.2.2.2.2.1 = fk ∧ u_22.1.2.2.2.2.2.2.2 = fp) ∨ ((0 : Int) = 0 ∧ xIce (tX bf ln) N n ni G cu = .inl (u_22.1.2.2.2.2.2.2.1, u_22.1.2.2.2.2.2.2.2)) from (Or.inr ⟨rfl, xIce_l2 (by omega) st_13 st_19 st_25⟩))⟩ (hP.sub [0, 5, 6, 7, 3, 4, 1, 2] rfl) (hD.sub [0, 5, 6, 7, 3, 4, 1, 2] rfl rfl) dX6_readIce_92
        ·
          rw [qt_19]
          refine lv_istore_n (lv' := [(3, .int (iZ (-1))), (2, .int (iZ u_10.1.1)), (1, .int (iZ (ni * 4))), (0, .ref hq)]) hx hb dX6_readIce_73 rfl hl (bl rfl) rfl (fun ls hl => ?_)
          refine lv_iload_n hx hb dX6_readIce_74 rfl (lv_at hl 0 rfl) ?_
          refine lv_iconst (v := iZ (-1)) hx hb dX6_readIce_75 rfl ?_
          refine lv_icmp_eq (tgt := 91) hx hb dX6_readIce_76 rfl (fun _ => ?_) (fun c => absurd (by decide) c)
          refine lv_iconst (v := iZ 0) hx hb dX6_readIce_91 rfl ?_
          exact EWz hx hb hr hlocks hS ((0, u_16.1.2.1, u_16.1.2.2.1, u_16.1.2.2.2.1, u_16.1.2.2.2.2.1, u_16.1.2.2.2.2.2.1, u_16.1.2.2.2.2.2.2.1, u_16.1.2.2.2.2.2.2.2, ni), (0, u_16.2.1.2), g, ()) rfl rfl ⟨(show (0 ≤ tp ∧ tp ≤ 900) ∧ (0 ≤ ln ∧ ln ≤ 900) ∧ (0 ≤ u_16.1.2.1 ∧ u_16.1.2.1 ≤ u_16.1.2.2.1) ∧ (u_16.1.2.2.1 ≤ ln) ∧ (0 ≤ u_16.1.2.2.2.1 ∧ u_16.1.2.2.2.1 ≤ 4) ∧ (-2147483648 ≤ u_16.1.2.2.2.2.1 ∧ u_16.1.2.2.2.2.1 < 2147483648) ∧ (-1 ≤ u_16.1.2.2.2.2.2.1 ∧ u_16.1.2.2.2.2.2.1 ≤ 24) from (by first | with_reducible assumption | exact ⟨⟨by omega, by omega⟩, ⟨by omega, by omega⟩, ⟨by omega, by omega⟩, by omega, ⟨by omega, by omega⟩, ⟨by omega, by omega⟩, by omega, by omega⟩)), (show 0 ≤ ni ∧ ni ≤ 8 from ⟨by omega, by omega⟩), (show ((0 : Int) = 1 ∧ ∃ (q9 : Int) (G9 : Int → Int), xIce (tX bf ln) N n ni G cu = .inr (q9, G9) ∧ cu < q9 ∧ RDX (tX bf ln) q9 u_16.1.2.1 u_16.1.2.2.1 u_16.1.2.2.2.1 u_16.1.2.2.2.2.1 u_16.1.2.2.2.2.2.1 u_16.2.1.2 ∧ xRw g G9 (ni * 4) ∧ ni = ni + 1 ∧ u_16.1.2.2.2.2.2.2.1 = fk ∧ u_16.1.2.2.2.2.2.2.2 = fp) ∨ ((0 : Int) = 0 ∧ xIce (tX bf ln) N n ni G cu = .inl (u_16.1.2.2.2.2.2.2.1, u_16.1.2.2.2.2.2.2.2)) from (Or.inr ⟨rfl, xIce_l1 (by omega) st_13 st_19⟩))⟩ (hP.sub [0, 3, 4, 5, 6, 7, 1, 2] rfl) (hD.sub [0, 3, 4, 5, 6, 7, 1, 2] rfl rfl) dX6_readIce_92
      ·
        have c_15 := (zeq (x := iZ u_10.1.1) (y := iZ (-1)) rfl rfl ⟨by omega, by omega⟩ wn_m1).mp c_15
        exact absurd c_15 (by omega)
    ·
      rw [qt_13]
      refine lv_istore_n (lv' := [(2, .int (iZ (-1))), (1, .int (iZ (ni * 4))), (0, .ref hq)]) hx hb dX6_readIce_51 rfl hl (bl rfl) rfl (fun ls hl => ?_)
      refine lv_iload_n hx hb dX6_readIce_52 rfl (lv_at hl 0 rfl) ?_
      refine lv_iconst (v := iZ (-1)) hx hb dX6_readIce_53 rfl ?_
      refine lv_icmp_ne (tgt := 61) hx hb dX6_readIce_54 rfl (fun c => absurd (by decide) c) (fun _ => ?_)
      refine lv_iconst (v := iZ (-1)) hx hb dX6_readIce_57 rfl ?_
      refine lv_goto (tgt := 73) hx hb dX6_readIce_58 rfl ?_
      refine lv_istore_n (lv' := [(3, .int (iZ (-1))), (2, .int (iZ (-1))), (1, .int (iZ (ni * 4))), (0, .ref hq)]) hx hb dX6_readIce_73 rfl hl (bl rfl) rfl (fun ls hl => ?_)
      refine lv_iload_n hx hb dX6_readIce_74 rfl (lv_at hl 0 rfl) ?_
      refine lv_iconst (v := iZ (-1)) hx hb dX6_readIce_75 rfl ?_
      refine lv_icmp_eq (tgt := 91) hx hb dX6_readIce_76 rfl (fun _ => ?_) (fun c => absurd (by decide) c)
      refine lv_iconst (v := iZ 0) hx hb dX6_readIce_91 rfl ?_
      exact EWz hx hb hr hlocks hS ((0, u_10.1.2.1, u_10.1.2.2.1, u_10.1.2.2.2.1, u_10.1.2.2.2.2.1, u_10.1.2.2.2.2.2.1, u_10.1.2.2.2.2.2.2.1, u_10.1.2.2.2.2.2.2.2, ni), (0, u_10.2.1.2), g, ()) rfl rfl ⟨(show (0 ≤ tp ∧ tp ≤ 900) ∧ (0 ≤ ln ∧ ln ≤ 900) ∧ (0 ≤ u_10.1.2.1 ∧ u_10.1.2.1 ≤ u_10.1.2.2.1) ∧ (u_10.1.2.2.1 ≤ ln) ∧ (0 ≤ u_10.1.2.2.2.1 ∧ u_10.1.2.2.2.1 ≤ 4) ∧ (-2147483648 ≤ u_10.1.2.2.2.2.1 ∧ u_10.1.2.2.2.2.1 < 2147483648) ∧ (-1 ≤ u_10.1.2.2.2.2.2.1 ∧ u_10.1.2.2.2.2.2.1 ≤ 24) from (by first | with_reducible assumption | exact ⟨⟨by omega, by omega⟩, ⟨by omega, by omega⟩, ⟨by omega, by omega⟩, by omega, ⟨by omega, by omega⟩, ⟨by omega, by omega⟩, by omega, by omega⟩)), (show 0 ≤ ni ∧ ni ≤ 8 from ⟨by omega, by omega⟩), (show ((0 : Int) = 1 ∧ ∃ (q9 : Int) (G9 : Int → Int), xIce (tX bf ln) N n ni G cu = .inr (q9, G9) ∧ cu < q9 ∧ RDX (tX bf ln) q9 u_10.1.2.1 u_10.1.2.2.1 u_10.1.2.2.2.1 u_10.1.2.2.2.2.1 u_10.1.2.2.2.2.2.1 u_10.2.1.2 ∧ xRw g G9 (ni * 4) ∧ ni = ni + 1 ∧ u_10.1.2.2.2.2.2.2.1 = fk ∧ u_10.1.2.2.2.2.2.2.2 = fp) ∨ ((0 : Int) = 0 ∧ xIce (tX bf ln) N n ni G cu = .inl (u_10.1.2.2.2.2.2.2.1, u_10.1.2.2.2.2.2.2.2)) from (Or.inr ⟨rfl, xIce_l0 (by omega) st_13⟩))⟩ (hP.sub [0, 3, 4, 5, 6, 7, 1, 2] rfl) (hD.sub [0, 3, 4, 5, 6, 7, 1, 2] rfl rfl) dX6_readIce_92
  ·
    have c_2 := mt (zlt (x := iZ ni) (y := iZ 8) rfl rfl ⟨by omega, by omega⟩ wn_8).mpr c_2
    refine lv_aload_n hx hb dX6_readIce_12 rfl (lv_at hl 0 rfl) ?_
    refine va_get (D := D) (ci := 6) (v := .ref hr1) (C := RX6) (T := TX6) (N := 3) hx hb hts iX6 hown hK hP 0 rfl rfl 0 (bl rfl) (hts _ qf_X6_9) (fun _ h => h) rfl dX6_readIce_13 ?_
    refine lv_bipush (v := iZ 6) hx hb dX6_readIce_16 bip_6 ?_
    refine CWV (As := [.int (iZ 6)]) (rest := []) (wc := _) (wr := [(hq, .inr (6, [.ref hr1, .ref hs, .int (iZ lt)])), (hs, .inr (5, [.ref hN, .ref hf, .ref hg, .int (iZ n), .int (iZ ni), .int (iZ lw), .int (iZ we)])), (hN, .inl (k 2, 6, .inr (.inl nf))), (hf, .inl (k 1, 36, .inl f)), (hg, .inl (k 1, 32, .inl g))]) hx hb hml hown hts hKK hP hD hS hA (x_fail l D k hr1 tx kw tp ln pl en ki va ke fk fp nm bf kwf cu 6 (by first | with_reducible assumption | exact ⟨⟨by omega, by omega⟩, ⟨by omega, by omega⟩, ⟨by omega, by omega⟩, by omega, ⟨by omega, by omega⟩, ⟨by omega, by omega⟩, by omega, by omega⟩) hrx) ci_X4_fail qm_X6_47 ⟨Nat.le_of_ble_eq_true rfl, Nat.le_of_ble_eq_true rfl⟩ ⟨Nat.le_of_ble_eq_true rfl, Nat.le_of_ble_eq_true rfl⟩ [1, 2, 3] [0, 4, 5, 6, 7] rfl rfl rfl rfl rfl (dj rfl) 0 rfl rfl rfl hl.1 rfl (Nat.le_of_ble_eq_true rfl) dX6_readIce_18 (fun u_69 H locs hφ hP hD hS => ?_)
    have p_70 : u_69.1.2.1 = xFl (tX bf ln) cu 6 ∧ u_69.1.2.2 = xPl (tX bf ln) cu := hφ
    refine W.eq (g2 := F0 m 21 ls [.int (iZ 0)]) rfl ?_
    exact EWz hx hb hr hlocks hS ((0, pl, en, ki, va, ke, u_69.1.2.1, u_69.1.2.2, ni), (0, nm), g, ()) rfl rfl ⟨(show (0 ≤ tp ∧ tp ≤ 900) ∧ (0 ≤ ln ∧ ln ≤ 900) ∧ (0 ≤ pl ∧ pl ≤ en) ∧ (en ≤ ln) ∧ (0 ≤ ki ∧ ki ≤ 4) ∧ (-2147483648 ≤ va ∧ va < 2147483648) ∧ (-1 ≤ ke ∧ ke ≤ 24) from (by first | with_reducible assumption | exact ⟨⟨by omega, by omega⟩, ⟨by omega, by omega⟩, ⟨by omega, by omega⟩, by omega, ⟨by omega, by omega⟩, ⟨by omega, by omega⟩, by omega, by omega⟩)), (show 0 ≤ ni ∧ ni ≤ 8 from ⟨by omega, by omega⟩), (show ((0 : Int) = 1 ∧ ∃ (q9 : Int) (G9 : Int → Int), xIce (tX bf ln) N n ni G cu = .inr (q9, G9) ∧ cu < q9 ∧ RDX (tX bf ln) q9 pl en ki va ke nm ∧ xRw g G9 (ni * 4) ∧ ni = ni + 1 ∧ u_69.1.2.1 = fk ∧ u_69.1.2.2 = fp) ∨ ((0 : Int) = 0 ∧ xIce (tX bf ln) N n ni G cu = .inl (u_69.1.2.1, u_69.1.2.2)) from (Or.inr ⟨rfl, xIce_8 (by omega) p_70⟩))⟩ (hP.sub [0, 5, 6, 7, 1, 2, 3, 4] rfl) (hD.sub [0, 5, 6, 7, 1, 2, 3, 4] rfl rfl) dX6_readIce_21
theorem xLo_c (k : Int) : (k = 12 ∧ xLo k = 0) ∨ (k = 13 ∧ xLo k = 1) ∨ (k = 4 ∧ xLo k = 2) ∨ (k = 14 ∧ xLo k = 3) ∨ ((¬ k = 12 ∧ ¬ k = 13 ∧ ¬ k = 4 ∧ ¬ k = 14) ∧ xLo k = -1) := by
  unfold xLo
  by_cases h1 : k = 12
  · rw [if_pos h1]; omega
  · rw [if_neg h1]
    by_cases h2 : k = 13
    · rw [if_pos h2]; omega
    · rw [if_neg h2]
      by_cases h3 : k = 4
      · rw [if_pos h3]; omega
      · rw [if_neg h3]
        by_cases h4 : k = 14
        · rw [if_pos h4]; omega
        · rw [if_neg h4]; omega
set_option maxHeartbeats 4000000 in
set_option maxRecDepth 100000 in
theorem x_lawOf (l : Launch) (D : va_G) (k : Nat → ClassId) (x : Int) (hx9 : -2147483648 ≤ x ∧ x < 2147483648) : RP l yX6_lawOf cX6_lawOf 1 (some .int) 0 D k [.int (iZ x)] [] (fun z => z = xLo x ∧ -1 ≤ z ∧ z ≤ 3) := by
  refine MRP (by decide) (Nat.le_of_ble_eq_true rfl) (fun p e s m below meth c ls hx hb hml hr hlocks hts hown hKK hP hl => ?_)
  have hK := hKK.1
  have hl : lv_has ls 1 [(0, .int (iZ x))] := hl
  refine lv_iload_n hx hb dX6_lawOf_0 rfl (lv_at hl 0 rfl) ?_
  rcases Classical.em (x = 4) with c_1 | c_1
  ·
    refine lv_lookup (tgt := 48) (off := 47) hx hb dX6_lawOf_1 (by decide) (by rw [iZ_ti ⟨by omega, by omega⟩, c_1]; decide) (by decide) ?_
    refine lv_iconst (v := iZ 2) hx hb dX6_lawOf_48 rfl ?_
    exact EPi hx hb hr hlocks ⟨by have h9 := xLo_c x; omega, by omega, by omega⟩ dX6_lawOf_49
  ·
    rcases Classical.em (x = 12) with c_2 | c_2
    ·
      refine lv_lookup (tgt := 44) (off := 43) hx hb dX6_lawOf_1 (by decide) (by rw [iZ_ti ⟨by omega, by omega⟩, c_2]; decide) (by decide) ?_
      refine lv_iconst (v := iZ 0) hx hb dX6_lawOf_44 rfl ?_
      exact EPi hx hb hr hlocks ⟨by have h9 := xLo_c x; omega, by omega, by omega⟩ dX6_lawOf_45
    ·
      rcases Classical.em (x = 13) with c_3 | c_3
      ·
        refine lv_lookup (tgt := 46) (off := 45) hx hb dX6_lawOf_1 (by decide) (by rw [iZ_ti ⟨by omega, by omega⟩, c_3]; decide) (by decide) ?_
        refine lv_iconst (v := iZ 1) hx hb dX6_lawOf_46 rfl ?_
        exact EPi hx hb hr hlocks ⟨by have h9 := xLo_c x; omega, by omega, by omega⟩ dX6_lawOf_47
      ·
        rcases Classical.em (x = 14) with c_4 | c_4
        ·
          refine lv_lookup (tgt := 50) (off := 49) hx hb dX6_lawOf_1 (by decide) (by rw [iZ_ti ⟨by omega, by omega⟩, c_4]; decide) (by decide) ?_
          refine lv_iconst (v := iZ 3) hx hb dX6_lawOf_50 rfl ?_
          exact EPi hx hb hr hlocks ⟨by have h9 := xLo_c x; omega, by omega, by omega⟩ dX6_lawOf_51
        ·
          refine lv_lookup (tgt := 52) (off := 51) hx hb dX6_lawOf_1 (by decide) (by rw [iZ_ti ⟨by omega, by omega⟩]; simp [Op.lookupswitch.offset, show ¬ (x : Int) = 4 from c_1, show ¬ (4 : Int) = x from fun h => c_1 h.symm, show ¬ (x : Int) = 12 from c_2, show ¬ (12 : Int) = x from fun h => c_2 h.symm, show ¬ (x : Int) = 13 from c_3, show ¬ (13 : Int) = x from fun h => c_3 h.symm, show ¬ (x : Int) = 14 from c_4, show ¬ (14 : Int) = x from fun h => c_4 h.symm]) (by decide) ?_
          refine lv_iconst (v := iZ (-1)) hx hb dX6_lawOf_52 rfl ?_
          exact EPi hx hb hr hlocks ⟨by have h9 := xLo_c x; omega, by omega, by omega⟩ dX6_lawOf_53
set_option maxHeartbeats 4000000 in
set_option maxRecDepth 100000 in
theorem x_readLaw (l : Launch) (D : va_G) (k : Nat → ClassId) (hq : Nat) (hr1 : Nat) (tx : Nat) (kw : Nat) (lt : Int) (tp : Int) (ln : Int) (pl : Int) (en : Int) (ki : Int) (va : Int) (ke : Int) (fk : Int) (fp : Int) (nm : Int64) (bf : Nat → Int32) (kwf : Nat → Int64) (hs : Nat) (hN : Nat) (hf : Nat) (hg : Nat) (n : Int) (ni : Int) (lw : Int) (we : Int) (nf : Nat → Int64) (f : Nat → Int32) (g : Nat → Int32) (cu : Int) (hI1 : (0 ≤ tp ∧ tp ≤ 900) ∧ (0 ≤ ln ∧ ln ≤ 900) ∧ (0 ≤ pl ∧ pl ≤ en) ∧ (en ≤ ln) ∧ (0 ≤ ki ∧ ki ≤ 4) ∧ (-2147483648 ≤ va ∧ va < 2147483648) ∧ (-1 ≤ ke ∧ ke ≤ 24)) (hbf : rgI bf (-128) 127 900) (hkw : ∀ j : Nat, j < 25 → kwf j = lZ (kwC j)) (hrx : RDX (tX bf ln) cu pl en ki va ke nm) (hlt : lt = 0 ∨ lt = 1) (hlw : 0 ≤ lw ∧ lw ≤ 3) (hnk : ¬ ki = 0) : WD (σ := ((Int × Int × Int × Int × Int × Int × Int × Int × Int × Int) × (Int64 × Int64) × (Unit) × (Unit))) l yX6_readLaw cX6_readLaw 2 (some .boolean) 3 0 0 D k [.ref hq] [(hq, .inr (6, [.ref hr1, .ref hs, .int (iZ lt)])), (hr1, .inr (4, [.ref tx, .ref kw, .int (iZ tp), .int (iZ ln), .int (iZ pl), .int (iZ en), .int (iZ ki), .int (iZ va), .int (iZ ke), .long nm, .int (iZ fk), .int (iZ fp)])), (tx, .inl (k 0, 900, .inl bf)), (kw, .inl (k 2, 25, .inr (.inl kwf))), (hs, .inr (5, [.ref hN, .ref hf, .ref hg, .int (iZ n), .int (iZ ni), .int (iZ lw), .int (iZ we)])), (hN, .inl (k 2, 6, .inr (.inl nf))), (hf, .inl (k 1, 36, .inl f)), (hg, .inl (k 1, 32, .inl g))] (fun u => some (.int (iZ u.1.1))) (fun u => ((0 ≤ tp ∧ tp ≤ 900) ∧ (0 ≤ ln ∧ ln ≤ 900) ∧ (0 ≤ u.1.2.1 ∧ u.1.2.1 ≤ u.1.2.2.1) ∧ (u.1.2.2.1 ≤ ln) ∧ (0 ≤ u.1.2.2.2.1 ∧ u.1.2.2.2.1 ≤ 4) ∧ (-2147483648 ≤ u.1.2.2.2.2.1 ∧ u.1.2.2.2.2.1 < 2147483648) ∧ (-1 ≤ u.1.2.2.2.2.2.1 ∧ u.1.2.2.2.2.2.1 ≤ 24)) ∧ (((u.1.2.2.2.2.2.2.2.2.2 : Int) = 0 ∨ (u.1.2.2.2.2.2.2.2.2.2 : Int) = 1) ∧ 0 ≤ (u.1.2.2.2.2.2.2.2.2.1 : Int) ∧ (u.1.2.2.2.2.2.2.2.2.1 : Int) ≤ 3) ∧ (((u.1.1 : Int) = 1 ∧ ∃ q9 : Int, xLaw (tX bf ln) lt cu = .inr (q9, u.1.2.2.2.2.2.2.2.2.1) ∧ cu < q9 ∧ RDX (tX bf ln) q9 u.1.2.1 u.1.2.2.1 u.1.2.2.2.1 u.1.2.2.2.2.1 u.1.2.2.2.2.2.1 u.2.1.2 ∧ (u.1.2.2.2.2.2.2.2.2.2 : Int) = 1 ∧ u.1.2.2.2.2.2.2.1 = fk ∧ u.1.2.2.2.2.2.2.2.1 = fp) ∨ ((u.1.1 : Int) = 0 ∧ xLaw (tX bf ln) lt cu = .inl (u.1.2.2.2.2.2.2.1, u.1.2.2.2.2.2.2.2.1)))) (fun u => [(hq, .inr (6, [.ref hr1, .ref hs, .int (iZ u.1.2.2.2.2.2.2.2.2.2)])), (hr1, .inr (4, [.ref tx, .ref kw, .int (iZ tp), .int (iZ ln), .int (iZ u.1.2.1), .int (iZ u.1.2.2.1), .int (iZ u.1.2.2.2.1), .int (iZ u.1.2.2.2.2.1), .int (iZ u.1.2.2.2.2.2.1), .long u.2.1.2, .int (iZ u.1.2.2.2.2.2.2.1), .int (iZ u.1.2.2.2.2.2.2.2.1)])), (tx, .inl (k 0, 900, .inl bf)), (kw, .inl (k 2, 25, .inr (.inl kwf))), (hs, .inr (5, [.ref hN, .ref hf, .ref hg, .int (iZ n), .int (iZ ni), .int (iZ u.1.2.2.2.2.2.2.2.2.1), .int (iZ we)])), (hN, .inl (k 2, 6, .inr (.inl nf))), (hf, .inl (k 1, 36, .inl f)), (hg, .inl (k 1, 32, .inl g))]) := by
  refine MW (by decide) (Nat.le_of_ble_eq_true rfl) (fun p e s m below meth c ls A hx hb hml hr hlocks hin hts hown hKK hP hD hS hA hl => ?_)
  have hK := hKK.1
  have hl : lv_has ls 2 [(0, .ref hq)] := hl
  obtain ⟨⟨ar_1, br_1⟩, cr_1, dr_1, er_1, fr_1, gr_1, hr_1⟩ := id hrx
  refine lv_aload_n hx hb dX6_readLaw_0 rfl (lv_at hl 0 rfl) ?_
  refine va_get (D := D) (ci := 6) (v := .int (iZ lt)) (C := RX6) (T := TX6) (N := 3) hx hb hts iX6 hown hK hP 0 rfl rfl 2 (bl rfl) (hts _ qf_X6_24) (fun _ h => h) rfl dX6_readLaw_1 ?_
  refine lv_if_eq (tgt := 16) hx hb dX6_readLaw_4 rfl (fun c_2 => ?_) (fun c_2 => ?_)
  ·
    have c_2 := (zeq (x := iZ lt) (y := iZ 0) rfl rfl ⟨by omega, by omega⟩ wn_0).mp c_2
    refine lv_aload_n hx hb dX6_readLaw_16 rfl (lv_at hl 0 rfl) ?_
    refine lv_iconst (v := iZ 1) hx hb dX6_readLaw_17 rfl ?_
    refine va_put (D := D) (ci := 6) (v := .int (iZ 1)) (ty := .boolean) (C := RX6) (T := TX6) (N := 3) hx hb hts iX6 tyX6 tyX6_ok nmX6 hown hK hP hD hS 0 rfl rfl 2 (bl rfl) (hts _ qf_X6_24) (fun _ h => h) rfl (by decide +kernel) rfl rfl (Nat.le_of_ble_eq_true rfl) dX6_readLaw_18 (fun H locs hP hD hS => ?_)
    refine lv_aload_n hx hb dX6_readLaw_21 rfl (lv_at hl 0 rfl) ?_
    refine va_get (D := D) (ci := 6) (v := .ref hr1) (C := RX6) (T := TX6) (N := 3) hx hb hts iX6 hown hK hP 0 rfl rfl 0 (bl rfl) (hts _ qf_X6_9) (fun _ h => h) rfl dX6_readLaw_22 ?_
    refine CWV (As := []) (rest := []) (wc := _) (wr := [(hq, .inr (6, [.ref hr1, .ref hs, .int (iZ 1)])), (hs, .inr (5, [.ref hN, .ref hf, .ref hg, .int (iZ n), .int (iZ ni), .int (iZ lw), .int (iZ we)])), (hN, .inl (k 2, 6, .inr (.inl nf))), (hf, .inl (k 1, 36, .inl f)), (hg, .inl (k 1, 32, .inl g))]) hx hb hml hown hts hKK hP hD hS hA (x_next l D k hr1 tx kw tp ln pl en ki va ke fk fp nm bf kwf ⟨⟨by omega, by omega⟩, ⟨by omega, by omega⟩, by omega, by omega⟩ hbf hkw) ci_X4_next qm_X6_54 ⟨Nat.le_of_ble_eq_true rfl, Nat.le_of_ble_eq_true rfl⟩ ⟨Nat.le_of_ble_eq_true rfl, Nat.le_of_ble_eq_true rfl⟩ [1, 2, 3] [0, 4, 5, 6, 7] rfl rfl rfl rfl rfl (dj rfl) 0 rfl rfl rfl hl.1 rfl (Nat.le_of_ble_eq_true rfl) dX6_readLaw_25 (fun u_3 H locs hφ hP hD hS => ?_)
    obtain ⟨p_4, p_5⟩ : (RDX (tX bf ln) en u_3.1.2.1 u_3.1.2.2.1 u_3.1.2.2.2.1 u_3.1.2.2.2.2.1 u_3.1.2.2.2.2.2 u_3.2.1.2) ∧ ((0 ≤ tp ∧ tp ≤ 900) ∧ (0 ≤ ln ∧ ln ≤ 900) ∧ (0 ≤ u_3.1.2.1 ∧ u_3.1.2.1 ≤ u_3.1.2.2.1) ∧ (u_3.1.2.2.1 ≤ ln) ∧ (0 ≤ u_3.1.2.2.2.1 ∧ u_3.1.2.2.2.1 ≤ 4) ∧ (-2147483648 ≤ u_3.1.2.2.2.2.1 ∧ u_3.1.2.2.2.2.1 < 2147483648) ∧ (-1 ≤ u_3.1.2.2.2.2.2 ∧ u_3.1.2.2.2.2.2 ≤ 24)) := hφ
    have rx_6 := RDX.nx hrx p_4
    obtain ⟨⟨ar_7, br_7⟩, cr_7, dr_7, er_7, fr_7, gr_7, hr_7⟩ := id rx_6
    obtain ⟨t1u_8, t2u_8, t3u_8, t4u_8, t5u_8, t6u_8, t7u_8⟩ := id p_5
    refine W.eq (g2 := F0 m 28 ls []) rfl ?_
    refine lv_aload_n hx hb dX6_readLaw_28 rfl (lv_at hl 0 rfl) ?_
    refine va_get (D := D) (ci := 6) (v := .ref hr1) (C := RX6) (T := TX6) (N := 3) hx hb hts iX6 hown hK hP 0 rfl rfl 0 (bl rfl) (hts _ qf_X6_9) (fun _ h => h) rfl dX6_readLaw_29 ?_
    refine va_get (D := D) (ci := 4) (v := .int (iZ u_3.1.2.2.2.2.2)) (C := RX4) (T := TX4) (N := 12) hx hb hts iX4 hown hK hP 5 rfl rfl 8 (bl rfl) (hts _ qf_X6_34) (fun _ h => h) rfl dX6_readLaw_32 ?_
    refine CPS (As := [.int (iZ u_3.1.2.2.2.2.2)]) (rest := []) hx hb hml hown hts hKK (hP.sub (ws' := []) [] rfl) (x_lawOf l D k u_3.1.2.2.2.2.2 ⟨by omega, by omega⟩) ci_X6_lawOf qm_X6_106 ⟨Nat.le_of_ble_eq_true rfl, Nat.le_of_ble_eq_true rfl⟩ ⟨Nat.le_of_ble_eq_true rfl, Nat.le_of_ble_eq_true rfl⟩ rfl hl.1 rfl (Nat.le_of_ble_eq_true rfl) dX6_readLaw_35 (fun z_9 hz_9 => ?_)
    refine lv_istore_n (lv' := [(1, .int (iZ z_9)), (0, .ref hq)]) hx hb dX6_readLaw_38 rfl hl (bl rfl) rfl (fun ls hl => ?_)
    refine lv_iload_n hx hb dX6_readLaw_39 rfl (lv_at hl 0 rfl) ?_
    refine lv_iconst (v := iZ (-1)) hx hb dX6_readLaw_40 rfl ?_
    refine lv_icmp_ne (tgt := 53) hx hb dX6_readLaw_41 rfl (fun c_10 => ?_) (fun c_10 => ?_)
    ·
      have c_10 := mt (zeq (x := iZ z_9) (y := iZ (-1)) rfl rfl ⟨by omega, by omega⟩ wn_m1).mpr c_10
      refine lv_aload_n hx hb dX6_readLaw_53 rfl (lv_at hl 1 rfl) ?_
      refine va_get (D := D) (ci := 6) (v := .ref hs) (C := RX6) (T := TX6) (N := 3) hx hb hts iX6 hown hK hP 0 rfl rfl 1 (bl rfl) (hts _ qf_X6_15) (fun _ h => h) rfl dX6_readLaw_54 ?_
      refine lv_iload_n hx hb dX6_readLaw_57 rfl (lv_at hl 0 rfl) ?_
      refine va_put (D := D) (ci := 5) (v := .int (iZ z_9)) (ty := .int) (C := RX5) (T := TX5) (N := 7) hx hb hts iX5 tyX5 tyX5_ok nmX5 hown hK hP hD hS 1 rfl rfl 5 (bl rfl) (hts _ qf_X6_110) (fun _ h => h) rfl (by decide +kernel) rfl rfl (Nat.le_of_ble_eq_true rfl) dX6_readLaw_58 (fun H locs hP hD hS => ?_)
      refine lv_aload_n hx hb dX6_readLaw_61 rfl (lv_at hl 1 rfl) ?_
      refine va_get (D := D) (ci := 6) (v := .ref hr1) (C := RX6) (T := TX6) (N := 3) hx hb hts iX6 hown hK hP 0 rfl rfl 0 (bl rfl) (hts _ qf_X6_9) (fun _ h => h) rfl dX6_readLaw_62 ?_
      refine CWV (As := []) (rest := []) (wc := _) (wr := [(hq, .inr (6, [.ref hr1, .ref hs, .int (iZ 1)])), (hs, .inr (5, [.ref hN, .ref hf, .ref hg, .int (iZ n), .int (iZ ni), .int (iZ z_9), .int (iZ we)])), (hN, .inl (k 2, 6, .inr (.inl nf))), (hf, .inl (k 1, 36, .inl f)), (hg, .inl (k 1, 32, .inl g))]) hx hb hml hown hts hKK hP hD hS hA (x_next l D k hr1 tx kw tp ln u_3.1.2.1 u_3.1.2.2.1 u_3.1.2.2.2.1 u_3.1.2.2.2.2.1 u_3.1.2.2.2.2.2 fk fp u_3.2.1.2 bf kwf ⟨⟨by omega, by omega⟩, ⟨by omega, by omega⟩, by omega, by omega⟩ hbf hkw) ci_X4_next qm_X6_54 ⟨Nat.le_of_ble_eq_true rfl, Nat.le_of_ble_eq_true rfl⟩ ⟨Nat.le_of_ble_eq_true rfl, Nat.le_of_ble_eq_true rfl⟩ [5, 6, 7] [0, 1, 2, 3, 4] rfl rfl rfl rfl rfl (dj rfl) 0 rfl rfl rfl hl.1 rfl (Nat.le_of_ble_eq_true rfl) dX6_readLaw_65 (fun u_11 H locs hφ hP hD hS => ?_)
      obtain ⟨p_12, p_13⟩ : (RDX (tX bf ln) u_3.1.2.2.1 u_11.1.2.1 u_11.1.2.2.1 u_11.1.2.2.2.1 u_11.1.2.2.2.2.1 u_11.1.2.2.2.2.2 u_11.2.1.2) ∧ ((0 ≤ tp ∧ tp ≤ 900) ∧ (0 ≤ ln ∧ ln ≤ 900) ∧ (0 ≤ u_11.1.2.1 ∧ u_11.1.2.1 ≤ u_11.1.2.2.1) ∧ (u_11.1.2.2.1 ≤ ln) ∧ (0 ≤ u_11.1.2.2.2.1 ∧ u_11.1.2.2.2.1 ≤ 4) ∧ (-2147483648 ≤ u_11.1.2.2.2.2.1 ∧ u_11.1.2.2.2.2.1 < 2147483648) ∧ (-1 ≤ u_11.1.2.2.2.2.2 ∧ u_11.1.2.2.2.2.2 ≤ 24)) := hφ
      have rx_14 := RDX.nx rx_6 p_12
      obtain ⟨⟨ar_15, br_15⟩, cr_15, dr_15, er_15, fr_15, gr_15, hr_15⟩ := id rx_14
      obtain ⟨t1u_16, t2u_16, t3u_16, t4u_16, t5u_16, t6u_16, t7u_16⟩ := id p_13
      refine W.eq (g2 := F0 m 68 ls []) rfl ?_
      refine lv_aload_n hx hb dX6_readLaw_68 rfl (lv_at hl 1 rfl) ?_
      refine va_get (D := D) (ci := 6) (v := .ref hr1) (C := RX6) (T := TX6) (N := 3) hx hb hts iX6 hown hK hP 0 rfl rfl 0 (bl rfl) (hts _ qf_X6_9) (fun _ h => h) rfl dX6_readLaw_69 ?_
      refine lv_bipush (v := iZ 59) hx hb dX6_readLaw_72 bip_59 ?_
      refine CWV (As := [.int (iZ 59)]) (rest := []) (wc := _) (wr := [(hq, .inr (6, [.ref hr1, .ref hs, .int (iZ 1)])), (hs, .inr (5, [.ref hN, .ref hf, .ref hg, .int (iZ n), .int (iZ ni), .int (iZ z_9), .int (iZ we)])), (hN, .inl (k 2, 6, .inr (.inl nf))), (hf, .inl (k 1, 36, .inl f)), (hg, .inl (k 1, 32, .inl g))]) hx hb hml hown hts hKK hP hD hS hA (x_takeSign l D k hr1 tx kw tp ln u_11.1.2.1 u_11.1.2.2.1 u_11.1.2.2.2.1 u_11.1.2.2.2.2.1 u_11.1.2.2.2.2.2 fk fp u_11.2.1.2 bf kwf (xEn (tX bf ln) (xEn (tX bf ln) cu)) 59 (by first | with_reducible assumption | exact ⟨⟨by omega, by omega⟩, ⟨by omega, by omega⟩, ⟨by omega, by omega⟩, by omega, ⟨by omega, by omega⟩, ⟨by omega, by omega⟩, by omega, by omega⟩) hbf hkw rx_14 ⟨by omega, by omega⟩) ci_X4_takeSign qm_X6_67 ⟨Nat.le_of_ble_eq_true rfl, Nat.le_of_ble_eq_true rfl⟩ ⟨Nat.le_of_ble_eq_true rfl, Nat.le_of_ble_eq_true rfl⟩ [5, 6, 7] [0, 1, 2, 3, 4] rfl rfl rfl rfl rfl (dj rfl) 0 rfl rfl rfl hl.1 rfl (Nat.le_of_ble_eq_true rfl) dX6_readLaw_74 (fun u_17 H locs hφ hP hD hS => ?_)
      obtain ⟨p_18, p_19⟩ : ((0 ≤ tp ∧ tp ≤ 900) ∧ (0 ≤ ln ∧ ln ≤ 900) ∧ (0 ≤ u_17.1.2.1 ∧ u_17.1.2.1 ≤ u_17.1.2.2.1) ∧ (u_17.1.2.2.1 ≤ ln) ∧ (0 ≤ u_17.1.2.2.2.1 ∧ u_17.1.2.2.2.1 ≤ 4) ∧ (-2147483648 ≤ u_17.1.2.2.2.2.1 ∧ u_17.1.2.2.2.2.1 < 2147483648) ∧ (-1 ≤ u_17.1.2.2.2.2.2.1 ∧ u_17.1.2.2.2.2.2.1 ≤ 24)) ∧ (((u_17.1.1 : Int) = 1 ∧ ∃ q9 : Int, xTs (tX bf ln) 59 (xEn (tX bf ln) (xEn (tX bf ln) cu)) = .inr q9 ∧ (xEn (tX bf ln) (xEn (tX bf ln) cu)) < q9 ∧ RDX (tX bf ln) q9 u_17.1.2.1 u_17.1.2.2.1 u_17.1.2.2.2.1 u_17.1.2.2.2.2.1 u_17.1.2.2.2.2.2.1 u_17.2.1.2 ∧ u_17.1.2.2.2.2.2.2.1 = fk ∧ u_17.1.2.2.2.2.2.2.2 = fp) ∨ ((u_17.1.1 : Int) = 0 ∧ xTs (tX bf ln) 59 (xEn (tX bf ln) (xEn (tX bf ln) cu)) = .inl (u_17.1.2.2.2.2.2.2.1, u_17.1.2.2.2.2.2.2.2))) := hφ
      refine W.eq (g2 := F0 m 77 ls [.int (iZ u_17.1.1)]) rfl ?_
      rcases p_19 with ⟨qt_20, cut_20, st_20, lt_20, xt_20, ut_20, vt_20⟩ | ⟨qt_20, st_20⟩
      ·
        rw [qt_20]
        obtain ⟨⟨ar_21, br_21⟩, cr_21, dr_21, er_21, fr_21, gr_21, hr_21⟩ := id xt_20
        have hlo : z_9 = xLo (xKw (tX bf ln) (xEn (tX bf ln) cu)) := hz_9.1.trans (congrArg xLo (by omega))
        exact EWz hx hb hr hlocks hS ((1, u_17.1.2.1, u_17.1.2.2.1, u_17.1.2.2.2.1, u_17.1.2.2.2.2.1, u_17.1.2.2.2.2.2.1, u_17.1.2.2.2.2.2.2.1, u_17.1.2.2.2.2.2.2.2, z_9, 1), (0, u_17.2.1.2), (), ()) rfl rfl ⟨(show (0 ≤ tp ∧ tp ≤ 900) ∧ (0 ≤ ln ∧ ln ≤ 900) ∧ (0 ≤ u_17.1.2.1 ∧ u_17.1.2.1 ≤ u_17.1.2.2.1) ∧ (u_17.1.2.2.1 ≤ ln) ∧ (0 ≤ u_17.1.2.2.2.1 ∧ u_17.1.2.2.2.1 ≤ 4) ∧ (-2147483648 ≤ u_17.1.2.2.2.2.1 ∧ u_17.1.2.2.2.2.1 < 2147483648) ∧ (-1 ≤ u_17.1.2.2.2.2.2.1 ∧ u_17.1.2.2.2.2.2.1 ≤ 24) from (by first | with_reducible assumption | exact ⟨⟨by omega, by omega⟩, ⟨by omega, by omega⟩, ⟨by omega, by omega⟩, by omega, ⟨by omega, by omega⟩, ⟨by omega, by omega⟩, by omega, by omega⟩)), (show ((1 : Int) = 0 ∨ (1 : Int) = 1) ∧ 0 ≤ (z_9 : Int) ∧ (z_9 : Int) ≤ 3 from (by omega)), (show ((1 : Int) = 1 ∧ ∃ q9 : Int, xLaw (tX bf ln) lt cu = .inr (q9, z_9) ∧ cu < q9 ∧ RDX (tX bf ln) q9 u_17.1.2.1 u_17.1.2.2.1 u_17.1.2.2.2.1 u_17.1.2.2.2.2.1 u_17.1.2.2.2.2.2.1 u_17.2.1.2 ∧ (1 : Int) = 1 ∧ u_17.1.2.2.2.2.2.2.1 = fk ∧ u_17.1.2.2.2.2.2.2.2 = fp) ∨ ((1 : Int) = 0 ∧ xLaw (tX bf ln) lt cu = .inl (u_17.1.2.2.2.2.2.2.1, u_17.1.2.2.2.2.2.2.2)) from (Or.inl ⟨rfl, cut_20, (xLaw_2 (show ¬ lt = 1 from (by omega)) hlo.symm (by omega)).trans (xBn_r st_20), by omega, xt_20, rfl, by omega, by omega⟩))⟩ (hP.sub [0, 5, 6, 7, 1, 2, 3, 4] rfl) (hD.sub [0, 5, 6, 7, 1, 2, 3, 4] rfl rfl) dX6_readLaw_77
      ·
        rw [qt_20]
        have hlo : z_9 = xLo (xKw (tX bf ln) (xEn (tX bf ln) cu)) := hz_9.1.trans (congrArg xLo (by omega))
        exact EWz hx hb hr hlocks hS ((0, u_17.1.2.1, u_17.1.2.2.1, u_17.1.2.2.2.1, u_17.1.2.2.2.2.1, u_17.1.2.2.2.2.2.1, u_17.1.2.2.2.2.2.2.1, u_17.1.2.2.2.2.2.2.2, z_9, 1), (0, u_17.2.1.2), (), ()) rfl rfl ⟨(show (0 ≤ tp ∧ tp ≤ 900) ∧ (0 ≤ ln ∧ ln ≤ 900) ∧ (0 ≤ u_17.1.2.1 ∧ u_17.1.2.1 ≤ u_17.1.2.2.1) ∧ (u_17.1.2.2.1 ≤ ln) ∧ (0 ≤ u_17.1.2.2.2.1 ∧ u_17.1.2.2.2.1 ≤ 4) ∧ (-2147483648 ≤ u_17.1.2.2.2.2.1 ∧ u_17.1.2.2.2.2.1 < 2147483648) ∧ (-1 ≤ u_17.1.2.2.2.2.2.1 ∧ u_17.1.2.2.2.2.2.1 ≤ 24) from (by first | with_reducible assumption | exact ⟨⟨by omega, by omega⟩, ⟨by omega, by omega⟩, ⟨by omega, by omega⟩, by omega, ⟨by omega, by omega⟩, ⟨by omega, by omega⟩, by omega, by omega⟩)), (show ((1 : Int) = 0 ∨ (1 : Int) = 1) ∧ 0 ≤ (z_9 : Int) ∧ (z_9 : Int) ≤ 3 from (by omega)), (show ((0 : Int) = 1 ∧ ∃ q9 : Int, xLaw (tX bf ln) lt cu = .inr (q9, z_9) ∧ cu < q9 ∧ RDX (tX bf ln) q9 u_17.1.2.1 u_17.1.2.2.1 u_17.1.2.2.2.1 u_17.1.2.2.2.2.1 u_17.1.2.2.2.2.2.1 u_17.2.1.2 ∧ (1 : Int) = 1 ∧ u_17.1.2.2.2.2.2.2.1 = fk ∧ u_17.1.2.2.2.2.2.2.2 = fp) ∨ ((0 : Int) = 0 ∧ xLaw (tX bf ln) lt cu = .inl (u_17.1.2.2.2.2.2.2.1, u_17.1.2.2.2.2.2.2.2)) from (Or.inr ⟨rfl, (xLaw_2 (show ¬ lt = 1 from (by omega)) hlo.symm (by omega)).trans (xBn_l st_20)⟩))⟩ (hP.sub [0, 5, 6, 7, 1, 2, 3, 4] rfl) (hD.sub [0, 5, 6, 7, 1, 2, 3, 4] rfl rfl) dX6_readLaw_77
    ·
      have c_10 := (zeq (x := iZ z_9) (y := iZ (-1)) rfl rfl ⟨by omega, by omega⟩ wn_m1).mp c_10
      refine lv_aload_n hx hb dX6_readLaw_44 rfl (lv_at hl 1 rfl) ?_
      refine va_get (D := D) (ci := 6) (v := .ref hr1) (C := RX6) (T := TX6) (N := 3) hx hb hts iX6 hown hK hP 0 rfl rfl 0 (bl rfl) (hts _ qf_X6_9) (fun _ h => h) rfl dX6_readLaw_45 ?_
      refine lv_iconst (v := iZ 2) hx hb dX6_readLaw_48 rfl ?_
      refine CWV (As := [.int (iZ 2)]) (rest := []) (wc := _) (wr := [(hq, .inr (6, [.ref hr1, .ref hs, .int (iZ 1)])), (hs, .inr (5, [.ref hN, .ref hf, .ref hg, .int (iZ n), .int (iZ ni), .int (iZ lw), .int (iZ we)])), (hN, .inl (k 2, 6, .inr (.inl nf))), (hf, .inl (k 1, 36, .inl f)), (hg, .inl (k 1, 32, .inl g))]) hx hb hml hown hts hKK hP hD hS hA (x_fail l D k hr1 tx kw tp ln u_3.1.2.1 u_3.1.2.2.1 u_3.1.2.2.2.1 u_3.1.2.2.2.2.1 u_3.1.2.2.2.2.2 fk fp u_3.2.1.2 bf kwf (xEn (tX bf ln) cu) 2 (by first | with_reducible assumption | exact ⟨⟨by omega, by omega⟩, ⟨by omega, by omega⟩, ⟨by omega, by omega⟩, by omega, ⟨by omega, by omega⟩, ⟨by omega, by omega⟩, by omega, by omega⟩) rx_6) ci_X4_fail qm_X6_47 ⟨Nat.le_of_ble_eq_true rfl, Nat.le_of_ble_eq_true rfl⟩ ⟨Nat.le_of_ble_eq_true rfl, Nat.le_of_ble_eq_true rfl⟩ [5, 6, 7] [0, 1, 2, 3, 4] rfl rfl rfl rfl rfl (dj rfl) 0 rfl rfl rfl hl.1 rfl (Nat.le_of_ble_eq_true rfl) dX6_readLaw_49 (fun u_22 H locs hφ hP hD hS => ?_)
      have p_23 : u_22.1.2.1 = xFl (tX bf ln) (xEn (tX bf ln) cu) 2 ∧ u_22.1.2.2 = xPl (tX bf ln) (xEn (tX bf ln) cu) := hφ
      refine W.eq (g2 := F0 m 52 ls [.int (iZ 0)]) rfl ?_
      have hlo : z_9 = xLo (xKw (tX bf ln) (xEn (tX bf ln) cu)) := hz_9.1.trans (congrArg xLo (by omega))
      exact EWz hx hb hr hlocks hS ((0, u_3.1.2.1, u_3.1.2.2.1, u_3.1.2.2.2.1, u_3.1.2.2.2.2.1, u_3.1.2.2.2.2.2, u_22.1.2.1, u_22.1.2.2, lw, 1), (0, u_3.2.1.2), (), ()) rfl rfl ⟨(show (0 ≤ tp ∧ tp ≤ 900) ∧ (0 ≤ ln ∧ ln ≤ 900) ∧ (0 ≤ u_3.1.2.1 ∧ u_3.1.2.1 ≤ u_3.1.2.2.1) ∧ (u_3.1.2.2.1 ≤ ln) ∧ (0 ≤ u_3.1.2.2.2.1 ∧ u_3.1.2.2.2.1 ≤ 4) ∧ (-2147483648 ≤ u_3.1.2.2.2.2.1 ∧ u_3.1.2.2.2.2.1 < 2147483648) ∧ (-1 ≤ u_3.1.2.2.2.2.2 ∧ u_3.1.2.2.2.2.2 ≤ 24) from (by first | with_reducible assumption | exact ⟨⟨by omega, by omega⟩, ⟨by omega, by omega⟩, ⟨by omega, by omega⟩, by omega, ⟨by omega, by omega⟩, ⟨by omega, by omega⟩, by omega, by omega⟩)), (show ((1 : Int) = 0 ∨ (1 : Int) = 1) ∧ 0 ≤ (lw : Int) ∧ (lw : Int) ≤ 3 from (by omega)), (show ((0 : Int) = 1 ∧ ∃ q9 : Int, xLaw (tX bf ln) lt cu = .inr (q9, lw) ∧ cu < q9 ∧ RDX (tX bf ln) q9 u_3.1.2.1 u_3.1.2.2.1 u_3.1.2.2.2.1 u_3.1.2.2.2.2.1 u_3.1.2.2.2.2.2 u_3.2.1.2 ∧ (1 : Int) = 1 ∧ u_22.1.2.1 = fk ∧ u_22.1.2.2 = fp) ∨ ((0 : Int) = 0 ∧ xLaw (tX bf ln) lt cu = .inl (u_22.1.2.1, u_22.1.2.2)) from (Or.inr ⟨rfl, by unfold xLaw xEr; rw [if_neg (show ¬ lt = 1 from (by omega)), if_pos (show xLo (xKw (tX bf ln) (xEn (tX bf ln) cu)) = -1 from (by omega)), p_23.1, p_23.2]⟩))⟩ (hP.sub [0, 5, 6, 7, 1, 2, 3, 4] rfl) (hD.sub [0, 5, 6, 7, 1, 2, 3, 4] rfl rfl) dX6_readLaw_52
  ·
    have c_2 := mt (zeq (x := iZ lt) (y := iZ 0) rfl rfl ⟨by omega, by omega⟩ wn_0).mpr c_2
    refine lv_aload_n hx hb dX6_readLaw_7 rfl (lv_at hl 0 rfl) ?_
    refine va_get (D := D) (ci := 6) (v := .ref hr1) (C := RX6) (T := TX6) (N := 3) hx hb hts iX6 hown hK hP 0 rfl rfl 0 (bl rfl) (hts _ qf_X6_9) (fun _ h => h) rfl dX6_readLaw_8 ?_
    refine lv_iconst (v := iZ 5) hx hb dX6_readLaw_11 rfl ?_
    refine CWV (As := [.int (iZ 5)]) (rest := []) (wc := _) (wr := [(hq, .inr (6, [.ref hr1, .ref hs, .int (iZ lt)])), (hs, .inr (5, [.ref hN, .ref hf, .ref hg, .int (iZ n), .int (iZ ni), .int (iZ lw), .int (iZ we)])), (hN, .inl (k 2, 6, .inr (.inl nf))), (hf, .inl (k 1, 36, .inl f)), (hg, .inl (k 1, 32, .inl g))]) hx hb hml hown hts hKK hP hD hS hA (x_fail l D k hr1 tx kw tp ln pl en ki va ke fk fp nm bf kwf cu 5 (by first | with_reducible assumption | exact ⟨⟨by omega, by omega⟩, ⟨by omega, by omega⟩, ⟨by omega, by omega⟩, by omega, ⟨by omega, by omega⟩, ⟨by omega, by omega⟩, by omega, by omega⟩) hrx) ci_X4_fail qm_X6_47 ⟨Nat.le_of_ble_eq_true rfl, Nat.le_of_ble_eq_true rfl⟩ ⟨Nat.le_of_ble_eq_true rfl, Nat.le_of_ble_eq_true rfl⟩ [1, 2, 3] [0, 4, 5, 6, 7] rfl rfl rfl rfl rfl (dj rfl) 0 rfl rfl rfl hl.1 rfl (Nat.le_of_ble_eq_true rfl) dX6_readLaw_12 (fun u_24 H locs hφ hP hD hS => ?_)
    have p_25 : u_24.1.2.1 = xFl (tX bf ln) cu 5 ∧ u_24.1.2.2 = xPl (tX bf ln) cu := hφ
    refine W.eq (g2 := F0 m 15 ls [.int (iZ 0)]) rfl ?_
    exact EWz hx hb hr hlocks hS ((0, pl, en, ki, va, ke, u_24.1.2.1, u_24.1.2.2, lw, lt), (0, nm), (), ()) rfl rfl ⟨(show (0 ≤ tp ∧ tp ≤ 900) ∧ (0 ≤ ln ∧ ln ≤ 900) ∧ (0 ≤ pl ∧ pl ≤ en) ∧ (en ≤ ln) ∧ (0 ≤ ki ∧ ki ≤ 4) ∧ (-2147483648 ≤ va ∧ va < 2147483648) ∧ (-1 ≤ ke ∧ ke ≤ 24) from (by first | with_reducible assumption | exact ⟨⟨by omega, by omega⟩, ⟨by omega, by omega⟩, ⟨by omega, by omega⟩, by omega, ⟨by omega, by omega⟩, ⟨by omega, by omega⟩, by omega, by omega⟩)), (show ((lt : Int) = 0 ∨ (lt : Int) = 1) ∧ 0 ≤ (lw : Int) ∧ (lw : Int) ≤ 3 from (by omega)), (show ((0 : Int) = 1 ∧ ∃ q9 : Int, xLaw (tX bf ln) lt cu = .inr (q9, lw) ∧ cu < q9 ∧ RDX (tX bf ln) q9 pl en ki va ke nm ∧ (lt : Int) = 1 ∧ u_24.1.2.1 = fk ∧ u_24.1.2.2 = fp) ∨ ((0 : Int) = 0 ∧ xLaw (tX bf ln) lt cu = .inl (u_24.1.2.1, u_24.1.2.2)) from (Or.inr ⟨rfl, by unfold xLaw xEr; rw [if_pos (by omega), p_25.1, p_25.2]⟩))⟩ (hP.sub [0, 5, 6, 7, 1, 2, 3, 4] rfl) (hD.sub [0, 5, 6, 7, 1, 2, 3, 4] rfl rfl) dX6_readLaw_15
end
