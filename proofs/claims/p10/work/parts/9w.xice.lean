set_option maxHeartbeats 4000000 in
set_option maxRecDepth 100000 in
theorem x_readIce (l : Launch) (D : va_G) (k : Nat → ClassId) (hq : Nat) (hr1 : Nat) (tx : Nat) (kw : Nat) (lt : Int) (tp : Int) (ln : Int) (pl : Int) (en : Int) (ki : Int) (va : Int) (ke : Int) (fk : Int) (fp : Int) (nm : Int64) (bf : Nat → Int32) (kwf : Nat → Int64) (hs : Nat) (hN : Nat) (hf : Nat) (hg : Nat) (n : Int) (ni : Int) (lw : Int) (we : Int) (nf : Nat → Int64) (f : Nat → Int32) (g : Nat → Int32) (cu : Int) (G : Int → Int) (N : Int → Int) (hI1 : (0 ≤ tp ∧ tp ≤ 900) ∧ (0 ≤ ln ∧ ln ≤ 900) ∧ (0 ≤ pl ∧ pl ≤ en) ∧ (en ≤ ln) ∧ (0 ≤ ki ∧ ki ≤ 4) ∧ (-2147483648 ≤ va ∧ va < 2147483648) ∧ (-1 ≤ ke ∧ ke ≤ 24)) (hbf : rgI bf (-128) 127 900) (hkw : ∀ j : Nat, j < 25 → kwf j = lZ (kwC j)) (hrx : RDX (tX bf ln) cu pl en ki va ke nm) (hn : 0 ≤ n ∧ n ≤ 6) (hni : 0 ≤ ni ∧ ni ≤ 8) (hns : xNs nf N n) (hG : xRw g G (ni * 4)) : WD (σ := ((Nat → Int) × (Nat → Int64) × (Nat → Nat → Int32) × (Nat → Nat → Int64))) l yX6_readIce cX6_readIce 6 (some .boolean) 3 0 0 D k [.ref hq] [(hq, .inr (6, [.ref hr1, .ref hs, .int (iZ lt)])), (hr1, .inr (4, [.ref tx, .ref kw, .int (iZ tp), .int (iZ ln), .int (iZ pl), .int (iZ en), .int (iZ ki), .int (iZ va), .int (iZ ke), .long nm, .int (iZ fk), .int (iZ fp)])), (tx, .inl (k 0, 900, .inl bf)), (kw, .inl (k 2, 25, .inr (.inl kwf))), (hs, .inr (5, [.ref hN, .ref hf, .ref hg, .int (iZ n), .int (iZ ni), .int (iZ lw), .int (iZ we)])), (hN, .inl (k 2, 6, .inr (.inl nf))), (hf, .inl (k 1, 36, .inl f)), (hg, .inl (k 1, 32, .inl g))] (fun u => some (.int (iZ (u.1 0)))) (fun u => ((0 ≤ tp ∧ tp ≤ 900) ∧ (0 ≤ ln ∧ ln ≤ 900) ∧ (0 ≤ (u.1 1) ∧ (u.1 1) ≤ (u.1 2)) ∧ ((u.1 2) ≤ ln) ∧ (0 ≤ (u.1 3) ∧ (u.1 3) ≤ 4) ∧ (-2147483648 ≤ (u.1 4) ∧ (u.1 4) < 2147483648) ∧ (-1 ≤ (u.1 5) ∧ (u.1 5) ≤ 24)) ∧ (0 ≤ (u.1 8) ∧ (u.1 8) ≤ 8) ∧ ((((u.1 0) : Int) = 1 ∧ ∃ (q9 : Int) (G9 : Int → Int), xIce (tX bf ln) N n ni G cu = .inr (q9, G9) ∧ cu < q9 ∧ RDX (tX bf ln) q9 (u.1 1) (u.1 2) (u.1 3) (u.1 4) (u.1 5) (u.2.1 1) ∧ xRw (u.2.2.1 0) G9 ((u.1 8) * 4) ∧ (u.1 8) = ni + 1 ∧ (u.1 6) = fk ∧ (u.1 7) = fp) ∨ (((u.1 0) : Int) = 0 ∧ xIce (tX bf ln) N n ni G cu = .inl ((u.1 6), (u.1 7))))) (fun u => [(hq, .inr (6, [.ref hr1, .ref hs, .int (iZ lt)])), (hr1, .inr (4, [.ref tx, .ref kw, .int (iZ tp), .int (iZ ln), .int (iZ (u.1 1)), .int (iZ (u.1 2)), .int (iZ (u.1 3)), .int (iZ (u.1 4)), .int (iZ (u.1 5)), .long (u.2.1 1), .int (iZ (u.1 6)), .int (iZ (u.1 7))])), (tx, .inl (k 0, 900, .inl bf)), (kw, .inl (k 2, 25, .inr (.inl kwf))), (hs, .inr (5, [.ref hN, .ref hf, .ref hg, .int (iZ n), .int (iZ (u.1 8)), .int (iZ lw), .int (iZ we)])), (hN, .inl (k 2, 6, .inr (.inl nf))), (hf, .inl (k 1, 36, .inl f)), (hg, .inl (k 1, 32, .inl (u.2.2.1 0)))]) := by
  refine MW (by decide) (Nat.le_of_ble_eq_true rfl) (fun p e s m below meth c ls A hx hb hml hr hlocks hin hts hown hKK hP hD hS hA hl => ?_)
  have hK := hKK.1
  have hl : lv_has ls 6 [(0, .ref hq)] := hl
  obtain ⟨⟨ar_1, br_1⟩, cr_1, dr_1, er_1, fr_1, gr_1, hr_1⟩ := id hrx
  refine lv_aload_n hx hb dX6_readIce_0 rfl (lv_at hl 0 rfl) ?_
  refine va_get (D := D) (ci := 6) (v := .ref hs) (C := RX6) (T := TX6) (N := 3) hx hb hts iX6 hown hK hP 0 rfl rfl 1 (by decide) (hts _ qf_X6_15) (fun _ h => h) rfl dX6_readIce_1 ?_
  refine va_get (D := D) (ci := 5) (v := .int (iZ ni)) (C := RX5) (T := TX5) (N := 7) hx hb hts iX5 hown hK hP 4 rfl rfl 4 (by decide) (hts _ qf_X6_96) (fun _ h => h) rfl dX6_readIce_4 ?_
  refine lv_bipush (v := iZ 8) hx hb dX6_readIce_7 (by decide) ?_
  refine lv_icmp_lt (tgt := 22) hx hb dX6_readIce_9 (by decide) (fun c_2 => ?_) (fun c_2 => ?_)
  ·
    have c_2 := (zlt (x := iZ ni) (y := iZ 8) rfl rfl ⟨by omega, by omega⟩ ⟨by omega, by omega⟩).mp c_2
    refine lv_aload_n hx hb dX6_readIce_22 rfl (lv_at hl 0 rfl) ?_
    refine va_get (D := D) (ci := 6) (v := .ref hr1) (C := RX6) (T := TX6) (N := 3) hx hb hts iX6 hown hK hP 0 rfl rfl 0 (by decide) (hts _ qf_X6_9) (fun _ h => h) rfl dX6_readIce_23 ?_
    refine CWV (As := []) (rest := []) (wc := [(hr1, .inr (4, [.ref tx, .ref kw, .int (iZ tp), .int (iZ ln), .int (iZ pl), .int (iZ en), .int (iZ ki), .int (iZ va), .int (iZ ke), .long nm, .int (iZ fk), .int (iZ fp)])), (tx, .inl (k 0, 900, .inl bf)), (kw, .inl (k 2, 25, .inr (.inl kwf)))]) (wr := [(hq, .inr (6, [.ref hr1, .ref hs, .int (iZ lt)])), (hs, .inr (5, [.ref hN, .ref hf, .ref hg, .int (iZ n), .int (iZ ni), .int (iZ lw), .int (iZ we)])), (hN, .inl (k 2, 6, .inr (.inl nf))), (hf, .inl (k 1, 36, .inl f)), (hg, .inl (k 1, 32, .inl g))]) hx hb hml hown hts hKK hP hD hS hA (x_next l D k hr1 tx kw tp ln pl en ki va ke fk fp nm bf kwf ⟨⟨by omega, by omega⟩, ⟨by omega, by omega⟩, by omega, by omega⟩ hbf hkw) ci_X4_next qm_X6_54 ⟨Nat.le_of_ble_eq_true rfl, Nat.le_of_ble_eq_true rfl⟩ ⟨Nat.le_of_ble_eq_true rfl, Nat.le_of_ble_eq_true rfl⟩ [1, 2, 3] [0, 4, 5, 6, 7] rfl rfl rfl rfl rfl (by decide) 0 rfl rfl rfl hl.1 rfl (Nat.le_of_ble_eq_true rfl) dX6_readIce_26 (fun u_3 H locs hφ hP hD hS => ?_)
    obtain ⟨I_4, L_5, F_6, G_7⟩ := u_3
    obtain ⟨p_9, p_10⟩ : (RDX (tX bf ln) en (I_4 1) (I_4 2) (I_4 3) (I_4 4) (I_4 5) (L_5 1)) ∧ ((0 ≤ tp ∧ tp ≤ 900) ∧ (0 ≤ ln ∧ ln ≤ 900) ∧ (0 ≤ (I_4 1) ∧ (I_4 1) ≤ (I_4 2)) ∧ ((I_4 2) ≤ ln) ∧ (0 ≤ (I_4 3) ∧ (I_4 3) ≤ 4) ∧ (-2147483648 ≤ (I_4 4) ∧ (I_4 4) < 2147483648) ∧ (-1 ≤ (I_4 5) ∧ (I_4 5) ≤ 24)) := hφ
    have rx_11 := RDX.nx hrx p_9
    obtain ⟨⟨ar_12, br_12⟩, cr_12, dr_12, er_12, fr_12, gr_12, hr_12⟩ := id rx_11
    obtain ⟨t1u_13, t2u_13, t3u_13, t4u_13, t5u_13, t6u_13, t7u_13⟩ := id p_10
    refine W.eq (g2 := F0 m 29 ls []) rfl ?_
    refine lv_aload_n hx hb dX6_readIce_29 rfl (lv_at hl 0 rfl) ?_
    refine va_get (D := D) (ci := 6) (v := .ref hs) (C := RX6) (T := TX6) (N := 3) hx hb hts iX6 hown hK hP 0 rfl rfl 1 (by decide) (hts _ qf_X6_15) (fun _ h => h) rfl dX6_readIce_30 ?_
    refine va_get (D := D) (ci := 5) (v := .int (iZ ni)) (C := RX5) (T := TX5) (N := 7) hx hb hts iX5 hown hK hP 1 rfl rfl 4 (by decide) (hts _ qf_X6_96) (fun _ h => h) rfl dX6_readIce_33 ?_
    refine lv_iconst (v := iZ 4) hx hb dX6_readIce_36 (by decide) ?_
    refine lv_imul hx hb dX6_readIce_37 ?_
    refine lv_topi (fun x_14 ex_14 => ?_)
    obtain rfl : x_14 = iZ (ni * 4) := ex_14.trans (iZ_mul ni 4)
    refine lv_istore_n (lv' := [(1, .int (iZ (ni * 4))), (0, .ref hq)]) hx hb dX6_readIce_38 rfl hl (by decide) rfl (fun ls hl => ?_)
    refine lv_aload_n hx hb dX6_readIce_39 rfl (lv_at hl 1 rfl) ?_
    refine va_get (D := D) (ci := 6) (v := .ref hr1) (C := RX6) (T := TX6) (N := 3) hx hb hts iX6 hown hK hP 0 rfl rfl 0 (by decide) (hts _ qf_X6_9) (fun _ h => h) rfl dX6_readIce_40 ?_
    refine lv_aload_n hx hb dX6_readIce_43 rfl (lv_at hl 1 rfl) ?_
    refine va_get (D := D) (ci := 6) (v := .ref hs) (C := RX6) (T := TX6) (N := 3) hx hb hts iX6 hown hK hP 0 rfl rfl 1 (by decide) (hts _ qf_X6_15) (fun _ h => h) rfl dX6_readIce_44 ?_
    refine lv_iconst (v := iZ (-1)) hx hb dX6_readIce_47 (by decide) ?_
    refine CWV (As := [.ref hs, .int (iZ (-1))]) (rest := []) (wc := [(hr1, .inr (4, [.ref tx, .ref kw, .int (iZ tp), .int (iZ ln), .int (iZ (I_4 1)), .int (iZ (I_4 2)), .int (iZ (I_4 3)), .int (iZ (I_4 4)), .int (iZ (I_4 5)), .long (L_5 1), .int (iZ fk), .int (iZ fp)])), (tx, .inl (k 0, 900, .inl bf)), (kw, .inl (k 2, 25, .inr (.inl kwf))), (hs, .inr (5, [.ref hN, .ref hf, .ref hg, .int (iZ n), .int (iZ ni), .int (iZ lw), .int (iZ we)])), (hN, .inl (k 2, 6, .inr (.inl nf)))]) (wr := [(hq, .inr (6, [.ref hr1, .ref hs, .int (iZ lt)])), (hf, .inl (k 1, 36, .inl f)), (hg, .inl (k 1, 32, .inl g))]) hx hb hml hown hts hKK hP hD hS hA (x_takeRock l D k ([.ref hN, .ref hf, .ref hg, .int (iZ n), .int (iZ ni), .int (iZ lw), .int (iZ we)]) hr1 tx kw hs hN tp ln (I_4 1) (I_4 2) (I_4 3) (I_4 4) (I_4 5) fk fp (L_5 1) bf kwf nf n (xEn (tX bf ln) cu) (-1) N rfl rfl ⟨⟨by omega, by omega⟩, ⟨by omega, by omega⟩, ⟨by omega, by omega⟩, by omega, ⟨by omega, by omega⟩, ⟨by omega, by omega⟩, by omega, by omega⟩ hbf hkw rx_11 ⟨by omega, by omega⟩ ⟨by omega, by omega⟩ hns) ci_X4_takeRock qm_X6_99 ⟨Nat.le_of_ble_eq_true rfl, Nat.le_of_ble_eq_true rfl⟩ ⟨Nat.le_of_ble_eq_true rfl, Nat.le_of_ble_eq_true rfl⟩ [5, 6, 7, 1, 2] [0, 3, 4] rfl rfl rfl rfl rfl (by decide) 0 rfl rfl rfl hl.1 rfl (Nat.le_of_ble_eq_true rfl) dX6_readIce_48 (fun u_15 H locs hφ hP hD hS => ?_)
    obtain ⟨I_16, L_17, F_18, G_19⟩ := u_15
    obtain ⟨p_21, p_22⟩ : ((0 ≤ tp ∧ tp ≤ 900) ∧ (0 ≤ ln ∧ ln ≤ 900) ∧ (0 ≤ (I_16 1) ∧ (I_16 1) ≤ (I_16 2)) ∧ ((I_16 2) ≤ ln) ∧ (0 ≤ (I_16 3) ∧ (I_16 3) ≤ 4) ∧ (-2147483648 ≤ (I_16 4) ∧ (I_16 4) < 2147483648) ∧ (-1 ≤ (I_16 5) ∧ (I_16 5) ≤ 24)) ∧ ((¬ ((I_16 0) : Int) = -1 ∧ ∃ q9 : Int, xTr (tX bf ln) N n (-1) (xEn (tX bf ln) cu) = .inr (q9, (I_16 0)) ∧ (xEn (tX bf ln) cu) < q9 ∧ RDX (tX bf ln) q9 (I_16 1) (I_16 2) (I_16 3) (I_16 4) (I_16 5) (L_17 1) ∧ (0 ≤ (I_16 0) ∧ (I_16 0) < n) ∧ (I_16 6) = fk ∧ (I_16 7) = fp) ∨ (((I_16 0) : Int) = -1 ∧ xTr (tX bf ln) N n (-1) (xEn (tX bf ln) cu) = .inl ((I_16 6), (I_16 7)))) := hφ
    refine W.eq (g2 := F0 m 51 ls [.int (iZ (I_16 0))]) rfl ?_
    rcases p_22 with ⟨qt_23, cut_23, st_23, lt_23, xt_23, rt_23, ut_23, vt_23⟩ | ⟨qt_23, st_23⟩
    ·
      obtain ⟨⟨ar_24, br_24⟩, cr_24, dr_24, er_24, fr_24, gr_24, hr_24⟩ := id xt_23
      refine lv_istore_n (lv' := [(2, .int (iZ (I_16 0))), (1, .int (iZ (ni * 4))), (0, .ref hq)]) hx hb dX6_readIce_51 rfl hl (by decide) rfl (fun ls hl => ?_)
      refine lv_iload_n hx hb dX6_readIce_52 rfl (lv_at hl 0 rfl) ?_
      refine lv_iconst (v := iZ (-1)) hx hb dX6_readIce_53 (by decide) ?_
      refine lv_icmp_ne (tgt := 61) hx hb dX6_readIce_54 (by decide) (fun c_25 => ?_) (fun c_25 => ?_)
      ·
        have c_25 := mt (zeq (x := iZ (I_16 0)) (y := iZ (-1)) rfl rfl ⟨by omega, by omega⟩ ⟨by omega, by omega⟩).mpr c_25
        refine lv_aload_n hx hb dX6_readIce_61 rfl (lv_at hl 2 rfl) ?_
        refine va_get (D := D) (ci := 6) (v := .ref hr1) (C := RX6) (T := TX6) (N := 3) hx hb hts iX6 hown hK hP 0 rfl rfl 0 (by decide) (hts _ qf_X6_9) (fun _ h => h) rfl dX6_readIce_62 ?_
        refine lv_aload_n hx hb dX6_readIce_65 rfl (lv_at hl 2 rfl) ?_
        refine va_get (D := D) (ci := 6) (v := .ref hs) (C := RX6) (T := TX6) (N := 3) hx hb hts iX6 hown hK hP 0 rfl rfl 1 (by decide) (hts _ qf_X6_15) (fun _ h => h) rfl dX6_readIce_66 ?_
        refine lv_iload_n hx hb dX6_readIce_69 rfl (lv_at hl 0 rfl) ?_
        refine CWV (As := [.ref hs, .int (iZ (I_16 0))]) (rest := []) (wc := [(hr1, .inr (4, [.ref tx, .ref kw, .int (iZ tp), .int (iZ ln), .int (iZ (I_16 1)), .int (iZ (I_16 2)), .int (iZ (I_16 3)), .int (iZ (I_16 4)), .int (iZ (I_16 5)), .long (L_17 1), .int (iZ (I_16 6)), .int (iZ (I_16 7))])), (tx, .inl (k 0, 900, .inl bf)), (kw, .inl (k 2, 25, .inr (.inl kwf))), (hs, .inr (5, [.ref hN, .ref hf, .ref hg, .int (iZ n), .int (iZ ni), .int (iZ lw), .int (iZ we)])), (hN, .inl (k 2, 6, .inr (.inl nf)))]) (wr := [(hq, .inr (6, [.ref hr1, .ref hs, .int (iZ lt)])), (hf, .inl (k 1, 36, .inl f)), (hg, .inl (k 1, 32, .inl g))]) hx hb hml hown hts hKK hP hD hS hA (x_takeRock l D k ([.ref hN, .ref hf, .ref hg, .int (iZ n), .int (iZ ni), .int (iZ lw), .int (iZ we)]) hr1 tx kw hs hN tp ln (I_16 1) (I_16 2) (I_16 3) (I_16 4) (I_16 5) (I_16 6) (I_16 7) (L_17 1) bf kwf nf n cut_23 (I_16 0) N rfl rfl ⟨⟨by omega, by omega⟩, ⟨by omega, by omega⟩, ⟨by omega, by omega⟩, by omega, ⟨by omega, by omega⟩, ⟨by omega, by omega⟩, by omega, by omega⟩ hbf hkw xt_23 ⟨by omega, by omega⟩ ⟨by omega, by omega⟩ hns) ci_X4_takeRock qm_X6_99 ⟨Nat.le_of_ble_eq_true rfl, Nat.le_of_ble_eq_true rfl⟩ ⟨Nat.le_of_ble_eq_true rfl, Nat.le_of_ble_eq_true rfl⟩ [3, 4, 5, 6, 7] [0, 1, 2] rfl rfl rfl rfl rfl (by decide) 0 rfl rfl rfl hl.1 rfl (Nat.le_of_ble_eq_true rfl) dX6_readIce_70 (fun u_26 H locs hφ hP hD hS => ?_)
        obtain ⟨I_27, L_28, F_29, G_30⟩ := u_26
        obtain ⟨p_32, p_33⟩ : ((0 ≤ tp ∧ tp ≤ 900) ∧ (0 ≤ ln ∧ ln ≤ 900) ∧ (0 ≤ (I_27 1) ∧ (I_27 1) ≤ (I_27 2)) ∧ ((I_27 2) ≤ ln) ∧ (0 ≤ (I_27 3) ∧ (I_27 3) ≤ 4) ∧ (-2147483648 ≤ (I_27 4) ∧ (I_27 4) < 2147483648) ∧ (-1 ≤ (I_27 5) ∧ (I_27 5) ≤ 24)) ∧ ((¬ ((I_27 0) : Int) = -1 ∧ ∃ q9 : Int, xTr (tX bf ln) N n (I_16 0) cut_23 = .inr (q9, (I_27 0)) ∧ cut_23 < q9 ∧ RDX (tX bf ln) q9 (I_27 1) (I_27 2) (I_27 3) (I_27 4) (I_27 5) (L_28 1) ∧ (0 ≤ (I_27 0) ∧ (I_27 0) < n) ∧ (I_27 6) = (I_16 6) ∧ (I_27 7) = (I_16 7)) ∨ (((I_27 0) : Int) = -1 ∧ xTr (tX bf ln) N n (I_16 0) cut_23 = .inl ((I_27 6), (I_27 7)))) := hφ
        refine W.eq (g2 := F0 m 73 ls [.int (iZ (I_27 0))]) rfl ?_
        rcases p_33 with ⟨qt_34, cut_34, st_34, lt_34, xt_34, rt_34, ut_34, vt_34⟩ | ⟨qt_34, st_34⟩
        ·
          obtain ⟨⟨ar_35, br_35⟩, cr_35, dr_35, er_35, fr_35, gr_35, hr_35⟩ := id xt_34
          refine lv_istore_n (lv' := [(3, .int (iZ (I_27 0))), (2, .int (iZ (I_16 0))), (1, .int (iZ (ni * 4))), (0, .ref hq)]) hx hb dX6_readIce_73 rfl hl (by decide) rfl (fun ls hl => ?_)
          refine lv_iload_n hx hb dX6_readIce_74 rfl (lv_at hl 0 rfl) ?_
          refine lv_iconst (v := iZ (-1)) hx hb dX6_readIce_75 (by decide) ?_
          refine lv_icmp_eq (tgt := 91) hx hb dX6_readIce_76 (by decide) (fun c_36 => ?_) (fun c_36 => ?_)
          ·
            have c_36 := (zeq (x := iZ (I_27 0)) (y := iZ (-1)) rfl rfl ⟨by omega, by omega⟩ ⟨by omega, by omega⟩).mp c_36
            exact absurd c_36 (by omega)
          ·
            have c_36 := mt (zeq (x := iZ (I_27 0)) (y := iZ (-1)) rfl rfl ⟨by omega, by omega⟩ ⟨by omega, by omega⟩).mpr c_36
            refine lv_aload_n hx hb dX6_readIce_79 rfl (lv_at hl 3 rfl) ?_
            refine va_get (D := D) (ci := 6) (v := .ref hr1) (C := RX6) (T := TX6) (N := 3) hx hb hts iX6 hown hK hP 0 rfl rfl 0 (by decide) (hts _ qf_X6_9) (fun _ h => h) rfl dX6_readIce_80 ?_
            refine lv_bipush (v := iZ 9) hx hb dX6_readIce_83 (by decide) ?_
            refine CWV (As := [.int (iZ 9)]) (rest := []) (wc := [(hr1, .inr (4, [.ref tx, .ref kw, .int (iZ tp), .int (iZ ln), .int (iZ (I_27 1)), .int (iZ (I_27 2)), .int (iZ (I_27 3)), .int (iZ (I_27 4)), .int (iZ (I_27 5)), .long (L_28 1), .int (iZ (I_27 6)), .int (iZ (I_27 7))])), (tx, .inl (k 0, 900, .inl bf)), (kw, .inl (k 2, 25, .inr (.inl kwf)))]) (wr := [(hq, .inr (6, [.ref hr1, .ref hs, .int (iZ lt)])), (hf, .inl (k 1, 36, .inl f)), (hg, .inl (k 1, 32, .inl g)), (hs, .inr (5, [.ref hN, .ref hf, .ref hg, .int (iZ n), .int (iZ ni), .int (iZ lw), .int (iZ we)])), (hN, .inl (k 2, 6, .inr (.inl nf)))]) hx hb hml hown hts hKK hP hD hS hA (x_takeWord l D k hr1 tx kw tp ln (I_27 1) (I_27 2) (I_27 3) (I_27 4) (I_27 5) (I_27 6) (I_27 7) (L_28 1) bf kwf cut_34 9 ⟨⟨by omega, by omega⟩, ⟨by omega, by omega⟩, ⟨by omega, by omega⟩, by omega, ⟨by omega, by omega⟩, ⟨by omega, by omega⟩, by omega, by omega⟩ hbf hkw xt_34 ⟨by omega, by omega⟩) ci_X4_takeWord qm_X6_85 ⟨Nat.le_of_ble_eq_true rfl, Nat.le_of_ble_eq_true rfl⟩ ⟨Nat.le_of_ble_eq_true rfl, Nat.le_of_ble_eq_true rfl⟩ [3, 4, 5] [0, 1, 2, 6, 7] rfl rfl rfl rfl rfl (by decide) 0 rfl rfl rfl hl.1 rfl (Nat.le_of_ble_eq_true rfl) dX6_readIce_85 (fun u_37 H locs hφ hP hD hS => ?_)
            obtain ⟨I_38, L_39, F_40, G_41⟩ := u_37
            obtain ⟨p_43, p_44⟩ : ((0 ≤ tp ∧ tp ≤ 900) ∧ (0 ≤ ln ∧ ln ≤ 900) ∧ (0 ≤ (I_38 1) ∧ (I_38 1) ≤ (I_38 2)) ∧ ((I_38 2) ≤ ln) ∧ (0 ≤ (I_38 3) ∧ (I_38 3) ≤ 4) ∧ (-2147483648 ≤ (I_38 4) ∧ (I_38 4) < 2147483648) ∧ (-1 ≤ (I_38 5) ∧ (I_38 5) ≤ 24)) ∧ ((((I_38 0) : Int) = 1 ∧ ∃ q9 : Int, xTw (tX bf ln) 9 cut_34 = .inr q9 ∧ cut_34 < q9 ∧ RDX (tX bf ln) q9 (I_38 1) (I_38 2) (I_38 3) (I_38 4) (I_38 5) (L_39 1) ∧ (I_38 6) = (I_27 6) ∧ (I_38 7) = (I_27 7)) ∨ (((I_38 0) : Int) = 0 ∧ xTw (tX bf ln) 9 cut_34 = .inl ((I_38 6), (I_38 7)))) := hφ
            refine W.eq (g2 := F0 m 88 ls [.int (iZ (I_38 0))]) rfl ?_
            rcases p_44 with ⟨qt_45, cut_45, st_45, lt_45, xt_45, ut_45, vt_45⟩ | ⟨qt_45, st_45⟩
            ·
              rw [qt_45]
              obtain ⟨⟨ar_46, br_46⟩, cr_46, dr_46, er_46, fr_46, gr_46, hr_46⟩ := id xt_45
              refine lv_if_ne (tgt := 93) hx hb dX6_readIce_88 (by decide) (fun _ => ?_) (fun c => absurd c (by decide))
              refine lv_aload_n hx hb dX6_readIce_93 rfl (lv_at hl 3 rfl) ?_
              refine va_get (D := D) (ci := 6) (v := .ref hr1) (C := RX6) (T := TX6) (N := 3) hx hb hts iX6 hown hK hP 0 rfl rfl 0 (by decide) (hts _ qf_X6_9) (fun _ h => h) rfl dX6_readIce_94 ?_
              refine lv_iconst (v := iZ 0) hx hb dX6_readIce_97 (by decide) ?_
              refine lv_sipush (v := iZ 400) hx hb dX6_readIce_98 (by decide) ?_
              refine CWV (As := [.int (iZ 0), .int (iZ 400)]) (rest := []) (wc := [(hr1, .inr (4, [.ref tx, .ref kw, .int (iZ tp), .int (iZ ln), .int (iZ (I_38 1)), .int (iZ (I_38 2)), .int (iZ (I_38 3)), .int (iZ (I_38 4)), .int (iZ (I_38 5)), .long (L_39 1), .int (iZ (I_38 6)), .int (iZ (I_38 7))])), (tx, .inl (k 0, 900, .inl bf)), (kw, .inl (k 2, 25, .inr (.inl kwf)))]) (wr := [(hq, .inr (6, [.ref hr1, .ref hs, .int (iZ lt)])), (hf, .inl (k 1, 36, .inl f)), (hg, .inl (k 1, 32, .inl g)), (hs, .inr (5, [.ref hN, .ref hf, .ref hg, .int (iZ n), .int (iZ ni), .int (iZ lw), .int (iZ we)])), (hN, .inl (k 2, 6, .inr (.inl nf)))]) hx hb hml hown hts hKK hP hD hS hA (x_takeNumber l D k hr1 tx kw tp ln (I_38 1) (I_38 2) (I_38 3) (I_38 4) (I_38 5) (I_38 6) (I_38 7) (L_39 1) bf kwf cut_45 0 400 ⟨⟨by omega, by omega⟩, ⟨by omega, by omega⟩, ⟨by omega, by omega⟩, by omega, ⟨by omega, by omega⟩, ⟨by omega, by omega⟩, by omega, by omega⟩ hbf hkw xt_45 ⟨by omega, by omega⟩ ⟨by omega, by omega⟩) ci_X4_takeNumber qm_X6_88 ⟨Nat.le_of_ble_eq_true rfl, Nat.le_of_ble_eq_true rfl⟩ ⟨Nat.le_of_ble_eq_true rfl, Nat.le_of_ble_eq_true rfl⟩ [5, 6, 7] [0, 1, 2, 3, 4] rfl rfl rfl rfl rfl (by decide) 0 rfl rfl rfl hl.1 rfl (Nat.le_of_ble_eq_true rfl) dX6_readIce_101 (fun u_48 H locs hφ hP hD hS => ?_)
              obtain ⟨I_49, L_50, F_51, G_52⟩ := u_48
              obtain ⟨p_54, p_55⟩ : ((0 ≤ tp ∧ tp ≤ 900) ∧ (0 ≤ ln ∧ ln ≤ 900) ∧ (0 ≤ (I_49 1) ∧ (I_49 1) ≤ (I_49 2)) ∧ ((I_49 2) ≤ ln) ∧ (0 ≤ (I_49 3) ∧ (I_49 3) ≤ 4) ∧ (-2147483648 ≤ (I_49 4) ∧ (I_49 4) < 2147483648) ∧ (-1 ≤ (I_49 5) ∧ (I_49 5) ≤ 24)) ∧ ((¬ ((I_49 0) : Int) = -1 ∧ ∃ q9 : Int, xTn (tX bf ln) 0 400 cut_45 = .inr (q9, (I_49 0)) ∧ cut_45 < q9 ∧ RDX (tX bf ln) q9 (I_49 1) (I_49 2) (I_49 3) (I_49 4) (I_49 5) (L_50 1) ∧ (0 ≤ (I_49 0) ∧ (I_49 0) ≤ 400) ∧ (I_49 6) = (I_38 6) ∧ (I_49 7) = (I_38 7)) ∨ (((I_49 0) : Int) = -1 ∧ xTn (tX bf ln) 0 400 cut_45 = .inl ((I_49 6), (I_49 7)))) := hφ
              refine W.eq (g2 := F0 m 104 ls [.int (iZ (I_49 0))]) rfl ?_
              rcases p_55 with ⟨qt_56, cut_56, st_56, lt_56, xt_56, rt_56, ut_56, vt_56⟩ | ⟨qt_56, st_56⟩
              ·
                obtain ⟨⟨ar_57, br_57⟩, cr_57, dr_57, er_57, fr_57, gr_57, hr_57⟩ := id xt_56
                refine lv_istore (lv' := [(4, .int (iZ (I_49 0))), (3, .int (iZ (I_27 0))), (2, .int (iZ (I_16 0))), (1, .int (iZ (ni * 4))), (0, .ref hq)]) hx hb dX6_readIce_104 hl (by decide) rfl (fun ls hl => ?_)
                refine lv_iload hx hb dX6_readIce_106 (lv_at hl 0 rfl) ?_
                refine lv_iconst (v := iZ (-1)) hx hb dX6_readIce_108 (by decide) ?_
                refine lv_icmp_eq (tgt := 124) hx hb dX6_readIce_109 (by decide) (fun c_58 => ?_) (fun c_58 => ?_)
                ·
                  have c_58 := (zeq (x := iZ (I_49 0)) (y := iZ (-1)) rfl rfl ⟨by omega, by omega⟩ ⟨by omega, by omega⟩).mp c_58
                  exact absurd c_58 (by omega)
                ·
                  have c_58 := mt (zeq (x := iZ (I_49 0)) (y := iZ (-1)) rfl rfl ⟨by omega, by omega⟩ ⟨by omega, by omega⟩).mpr c_58
                  refine lv_aload_n hx hb dX6_readIce_112 rfl (lv_at hl 4 rfl) ?_
                  refine va_get (D := D) (ci := 6) (v := .ref hr1) (C := RX6) (T := TX6) (N := 3) hx hb hts iX6 hown hK hP 0 rfl rfl 0 (by decide) (hts _ qf_X6_9) (fun _ h => h) rfl dX6_readIce_113 ?_
                  refine lv_bipush (v := iZ 10) hx hb dX6_readIce_116 (by decide) ?_
                  refine CWV (As := [.int (iZ 10)]) (rest := []) (wc := [(hr1, .inr (4, [.ref tx, .ref kw, .int (iZ tp), .int (iZ ln), .int (iZ (I_49 1)), .int (iZ (I_49 2)), .int (iZ (I_49 3)), .int (iZ (I_49 4)), .int (iZ (I_49 5)), .long (L_50 1), .int (iZ (I_49 6)), .int (iZ (I_49 7))])), (tx, .inl (k 0, 900, .inl bf)), (kw, .inl (k 2, 25, .inr (.inl kwf)))]) (wr := [(hq, .inr (6, [.ref hr1, .ref hs, .int (iZ lt)])), (hf, .inl (k 1, 36, .inl f)), (hg, .inl (k 1, 32, .inl g)), (hs, .inr (5, [.ref hN, .ref hf, .ref hg, .int (iZ n), .int (iZ ni), .int (iZ lw), .int (iZ we)])), (hN, .inl (k 2, 6, .inr (.inl nf)))]) hx hb hml hown hts hKK hP hD hS hA (x_takeWord l D k hr1 tx kw tp ln (I_49 1) (I_49 2) (I_49 3) (I_49 4) (I_49 5) (I_49 6) (I_49 7) (L_50 1) bf kwf cut_56 10 ⟨⟨by omega, by omega⟩, ⟨by omega, by omega⟩, ⟨by omega, by omega⟩, by omega, ⟨by omega, by omega⟩, ⟨by omega, by omega⟩, by omega, by omega⟩ hbf hkw xt_56 ⟨by omega, by omega⟩) ci_X4_takeWord qm_X6_85 ⟨Nat.le_of_ble_eq_true rfl, Nat.le_of_ble_eq_true rfl⟩ ⟨Nat.le_of_ble_eq_true rfl, Nat.le_of_ble_eq_true rfl⟩ [5, 6, 7] [0, 1, 2, 3, 4] rfl rfl rfl rfl rfl (by decide) 0 rfl rfl rfl hl.1 rfl (Nat.le_of_ble_eq_true rfl) dX6_readIce_118 (fun u_59 H locs hφ hP hD hS => ?_)
                  obtain ⟨I_60, L_61, F_62, G_63⟩ := u_59
                  obtain ⟨p_65, p_66⟩ : ((0 ≤ tp ∧ tp ≤ 900) ∧ (0 ≤ ln ∧ ln ≤ 900) ∧ (0 ≤ (I_60 1) ∧ (I_60 1) ≤ (I_60 2)) ∧ ((I_60 2) ≤ ln) ∧ (0 ≤ (I_60 3) ∧ (I_60 3) ≤ 4) ∧ (-2147483648 ≤ (I_60 4) ∧ (I_60 4) < 2147483648) ∧ (-1 ≤ (I_60 5) ∧ (I_60 5) ≤ 24)) ∧ ((((I_60 0) : Int) = 1 ∧ ∃ q9 : Int, xTw (tX bf ln) 10 cut_56 = .inr q9 ∧ cut_56 < q9 ∧ RDX (tX bf ln) q9 (I_60 1) (I_60 2) (I_60 3) (I_60 4) (I_60 5) (L_61 1) ∧ (I_60 6) = (I_49 6) ∧ (I_60 7) = (I_49 7)) ∨ (((I_60 0) : Int) = 0 ∧ xTw (tX bf ln) 10 cut_56 = .inl ((I_60 6), (I_60 7)))) := hφ
                  refine W.eq (g2 := F0 m 121 ls [.int (iZ (I_60 0))]) rfl ?_
                  rcases p_66 with ⟨qt_67, cut_67, st_67, lt_67, xt_67, ut_67, vt_67⟩ | ⟨qt_67, st_67⟩
                  ·
                    rw [qt_67]
                    obtain ⟨⟨ar_68, br_68⟩, cr_68, dr_68, er_68, fr_68, gr_68, hr_68⟩ := id xt_67
                    refine lv_if_ne (tgt := 126) hx hb dX6_readIce_121 (by decide) (fun _ => ?_) (fun c => absurd c (by decide))
                    refine lv_aload_n hx hb dX6_readIce_126 rfl (lv_at hl 4 rfl) ?_
                    refine va_get (D := D) (ci := 6) (v := .ref hr1) (C := RX6) (T := TX6) (N := 3) hx hb hts iX6 hown hK hP 0 rfl rfl 0 (by decide) (hts _ qf_X6_9) (fun _ h => h) rfl dX6_readIce_127 ?_
                    refine lv_iload hx hb dX6_readIce_130 (lv_at hl 0 rfl) ?_
                    refine lv_sipush (v := iZ 400) hx hb dX6_readIce_132 (by decide) ?_
                    refine CWV (As := [.int (iZ (I_49 0)), .int (iZ 400)]) (rest := []) (wc := [(hr1, .inr (4, [.ref tx, .ref kw, .int (iZ tp), .int (iZ ln), .int (iZ (I_60 1)), .int (iZ (I_60 2)), .int (iZ (I_60 3)), .int (iZ (I_60 4)), .int (iZ (I_60 5)), .long (L_61 1), .int (iZ (I_60 6)), .int (iZ (I_60 7))])), (tx, .inl (k 0, 900, .inl bf)), (kw, .inl (k 2, 25, .inr (.inl kwf)))]) (wr := [(hq, .inr (6, [.ref hr1, .ref hs, .int (iZ lt)])), (hf, .inl (k 1, 36, .inl f)), (hg, .inl (k 1, 32, .inl g)), (hs, .inr (5, [.ref hN, .ref hf, .ref hg, .int (iZ n), .int (iZ ni), .int (iZ lw), .int (iZ we)])), (hN, .inl (k 2, 6, .inr (.inl nf)))]) hx hb hml hown hts hKK hP hD hS hA (x_takeNumber l D k hr1 tx kw tp ln (I_60 1) (I_60 2) (I_60 3) (I_60 4) (I_60 5) (I_60 6) (I_60 7) (L_61 1) bf kwf cut_67 (I_49 0) 400 ⟨⟨by omega, by omega⟩, ⟨by omega, by omega⟩, ⟨by omega, by omega⟩, by omega, ⟨by omega, by omega⟩, ⟨by omega, by omega⟩, by omega, by omega⟩ hbf hkw xt_67 ⟨by omega, by omega⟩ ⟨by omega, by omega⟩) ci_X4_takeNumber qm_X6_88 ⟨Nat.le_of_ble_eq_true rfl, Nat.le_of_ble_eq_true rfl⟩ ⟨Nat.le_of_ble_eq_true rfl, Nat.le_of_ble_eq_true rfl⟩ [5, 6, 7] [0, 1, 2, 3, 4] rfl rfl rfl rfl rfl (by decide) 0 rfl rfl rfl hl.1 rfl (Nat.le_of_ble_eq_true rfl) dX6_readIce_135 (fun u_70 H locs hφ hP hD hS => ?_)
                    obtain ⟨I_71, L_72, F_73, G_74⟩ := u_70
                    obtain ⟨p_76, p_77⟩ : ((0 ≤ tp ∧ tp ≤ 900) ∧ (0 ≤ ln ∧ ln ≤ 900) ∧ (0 ≤ (I_71 1) ∧ (I_71 1) ≤ (I_71 2)) ∧ ((I_71 2) ≤ ln) ∧ (0 ≤ (I_71 3) ∧ (I_71 3) ≤ 4) ∧ (-2147483648 ≤ (I_71 4) ∧ (I_71 4) < 2147483648) ∧ (-1 ≤ (I_71 5) ∧ (I_71 5) ≤ 24)) ∧ ((¬ ((I_71 0) : Int) = -1 ∧ ∃ q9 : Int, xTn (tX bf ln) (I_49 0) 400 cut_67 = .inr (q9, (I_71 0)) ∧ cut_67 < q9 ∧ RDX (tX bf ln) q9 (I_71 1) (I_71 2) (I_71 3) (I_71 4) (I_71 5) (L_72 1) ∧ ((I_49 0) ≤ (I_71 0) ∧ (I_71 0) ≤ 400) ∧ (I_71 6) = (I_60 6) ∧ (I_71 7) = (I_60 7)) ∨ (((I_71 0) : Int) = -1 ∧ xTn (tX bf ln) (I_49 0) 400 cut_67 = .inl ((I_71 6), (I_71 7)))) := hφ
                    refine W.eq (g2 := F0 m 138 ls [.int (iZ (I_71 0))]) rfl ?_
                    rcases p_77 with ⟨qt_78, cut_78, st_78, lt_78, xt_78, rt_78, ut_78, vt_78⟩ | ⟨qt_78, st_78⟩
                    ·
                      obtain ⟨⟨ar_79, br_79⟩, cr_79, dr_79, er_79, fr_79, gr_79, hr_79⟩ := id xt_78
                      refine lv_istore (lv' := [(5, .int (iZ (I_71 0))), (4, .int (iZ (I_49 0))), (3, .int (iZ (I_27 0))), (2, .int (iZ (I_16 0))), (1, .int (iZ (ni * 4))), (0, .ref hq)]) hx hb dX6_readIce_138 hl (by decide) rfl (fun ls hl => ?_)
                      refine lv_iload hx hb dX6_readIce_140 (lv_at hl 0 rfl) ?_
                      refine lv_iconst (v := iZ (-1)) hx hb dX6_readIce_142 (by decide) ?_
                      refine lv_icmp_eq (tgt := 158) hx hb dX6_readIce_143 (by decide) (fun c_80 => ?_) (fun c_80 => ?_)
                      ·
                        have c_80 := (zeq (x := iZ (I_71 0)) (y := iZ (-1)) rfl rfl ⟨by omega, by omega⟩ ⟨by omega, by omega⟩).mp c_80
                        exact absurd c_80 (by omega)
                      ·
                        have c_80 := mt (zeq (x := iZ (I_71 0)) (y := iZ (-1)) rfl rfl ⟨by omega, by omega⟩ ⟨by omega, by omega⟩).mpr c_80
                        refine lv_aload_n hx hb dX6_readIce_146 rfl (lv_at hl 5 rfl) ?_
                        refine va_get (D := D) (ci := 6) (v := .ref hr1) (C := RX6) (T := TX6) (N := 3) hx hb hts iX6 hown hK hP 0 rfl rfl 0 (by decide) (hts _ qf_X6_9) (fun _ h => h) rfl dX6_readIce_147 ?_
                        refine lv_bipush (v := iZ 59) hx hb dX6_readIce_150 (by decide) ?_
                        refine CWV (As := [.int (iZ 59)]) (rest := []) (wc := [(hr1, .inr (4, [.ref tx, .ref kw, .int (iZ tp), .int (iZ ln), .int (iZ (I_71 1)), .int (iZ (I_71 2)), .int (iZ (I_71 3)), .int (iZ (I_71 4)), .int (iZ (I_71 5)), .long (L_72 1), .int (iZ (I_71 6)), .int (iZ (I_71 7))])), (tx, .inl (k 0, 900, .inl bf)), (kw, .inl (k 2, 25, .inr (.inl kwf)))]) (wr := [(hq, .inr (6, [.ref hr1, .ref hs, .int (iZ lt)])), (hf, .inl (k 1, 36, .inl f)), (hg, .inl (k 1, 32, .inl g)), (hs, .inr (5, [.ref hN, .ref hf, .ref hg, .int (iZ n), .int (iZ ni), .int (iZ lw), .int (iZ we)])), (hN, .inl (k 2, 6, .inr (.inl nf)))]) hx hb hml hown hts hKK hP hD hS hA (x_takeSign l D k hr1 tx kw tp ln (I_71 1) (I_71 2) (I_71 3) (I_71 4) (I_71 5) (I_71 6) (I_71 7) (L_72 1) bf kwf cut_78 59 ⟨⟨by omega, by omega⟩, ⟨by omega, by omega⟩, ⟨by omega, by omega⟩, by omega, ⟨by omega, by omega⟩, ⟨by omega, by omega⟩, by omega, by omega⟩ hbf hkw xt_78 ⟨by omega, by omega⟩) ci_X4_takeSign qm_X6_67 ⟨Nat.le_of_ble_eq_true rfl, Nat.le_of_ble_eq_true rfl⟩ ⟨Nat.le_of_ble_eq_true rfl, Nat.le_of_ble_eq_true rfl⟩ [5, 6, 7] [0, 1, 2, 3, 4] rfl rfl rfl rfl rfl (by decide) 0 rfl rfl rfl hl.1 rfl (Nat.le_of_ble_eq_true rfl) dX6_readIce_152 (fun u_81 H locs hφ hP hD hS => ?_)
                        obtain ⟨I_82, L_83, F_84, G_85⟩ := u_81
                        obtain ⟨p_87, p_88⟩ : ((0 ≤ tp ∧ tp ≤ 900) ∧ (0 ≤ ln ∧ ln ≤ 900) ∧ (0 ≤ (I_82 1) ∧ (I_82 1) ≤ (I_82 2)) ∧ ((I_82 2) ≤ ln) ∧ (0 ≤ (I_82 3) ∧ (I_82 3) ≤ 4) ∧ (-2147483648 ≤ (I_82 4) ∧ (I_82 4) < 2147483648) ∧ (-1 ≤ (I_82 5) ∧ (I_82 5) ≤ 24)) ∧ ((((I_82 0) : Int) = 1 ∧ ∃ q9 : Int, xTs (tX bf ln) 59 cut_78 = .inr q9 ∧ cut_78 < q9 ∧ RDX (tX bf ln) q9 (I_82 1) (I_82 2) (I_82 3) (I_82 4) (I_82 5) (L_83 1) ∧ (I_82 6) = (I_71 6) ∧ (I_82 7) = (I_71 7)) ∨ (((I_82 0) : Int) = 0 ∧ xTs (tX bf ln) 59 cut_78 = .inl ((I_82 6), (I_82 7)))) := hφ
                        refine W.eq (g2 := F0 m 155 ls [.int (iZ (I_82 0))]) rfl ?_
                        rcases p_88 with ⟨qt_89, cut_89, st_89, lt_89, xt_89, ut_89, vt_89⟩ | ⟨qt_89, st_89⟩
                        ·
                          rw [qt_89]
                          obtain ⟨⟨ar_90, br_90⟩, cr_90, dr_90, er_90, fr_90, gr_90, hr_90⟩ := id xt_89
                          refine lv_if_ne (tgt := 160) hx hb dX6_readIce_155 (by decide) (fun _ => ?_) (fun c => absurd c (by decide))
                          refine lv_aload_n hx hb dX6_readIce_160 rfl (lv_at hl 5 rfl) ?_
                          refine va_get (D := D) (ci := 6) (v := .ref hs) (C := RX6) (T := TX6) (N := 3) hx hb hts iX6 hown hK hP 0 rfl rfl 1 (by decide) (hts _ qf_X6_15) (fun _ h => h) rfl dX6_readIce_161 ?_
                          refine va_get (D := D) (ci := 5) (v := .ref hg) (C := RX5) (T := TX5) (N := 7) hx hb hts iX5 hown hK hP 3 rfl rfl 2 (by decide) (hts _ qf_X6_103) (fun _ h => h) rfl dX6_readIce_164 ?_
                          refine lv_iload_n hx hb dX6_readIce_167 rfl (lv_at hl 4 rfl) ?_
                          refine lv_iconst (v := iZ 0) hx hb dX6_readIce_168 (by decide) ?_
                          refine lv_iadd hx hb dX6_readIce_169 ?_
                          refine lv_topi (fun x_92 ex_92 => ?_)
                          obtain rfl : x_92 = iZ ((ni * 4) + 0) := ex_92.trans (iZ_add (ni * 4) 0)
                          refine lv_iload_n hx hb dX6_readIce_170 rfl (lv_at hl 3 rfl) ?_
                          refine va_iast hx hb hK hP hD hS 2 1 rfl rfl (zin (e := ((ni * 4) + 0)) (n := 32) ⟨by omega, by omega⟩ (by decide)) dX6_readIce_171 (fun H locs hP hD hS => ?_)
                          obtain ⟨f_93, hf_93⟩ : ∃ gg9, gg9 = upd g (iZ ((ni * 4) + 0)).toNatClampNeg (iZ (I_16 0)) := ⟨_, rfl⟩
                          rw [← hf_93] at hP hD
                          refine lv_aload_n hx hb dX6_readIce_172 rfl (lv_at hl 5 rfl) ?_
                          refine va_get (D := D) (ci := 6) (v := .ref hs) (C := RX6) (T := TX6) (N := 3) hx hb hts iX6 hown hK hP 0 rfl rfl 1 (by decide) (hts _ qf_X6_15) (fun _ h => h) rfl dX6_readIce_173 ?_
                          refine va_get (D := D) (ci := 5) (v := .ref hg) (C := RX5) (T := TX5) (N := 7) hx hb hts iX5 hown hK hP 3 rfl rfl 2 (by decide) (hts _ qf_X6_103) (fun _ h => h) rfl dX6_readIce_176 ?_
                          refine lv_iload_n hx hb dX6_readIce_179 rfl (lv_at hl 4 rfl) ?_
                          refine lv_iconst (v := iZ 1) hx hb dX6_readIce_180 (by decide) ?_
                          refine lv_iadd hx hb dX6_readIce_181 ?_
                          refine lv_topi (fun x_94 ex_94 => ?_)
                          obtain rfl : x_94 = iZ ((ni * 4) + 1) := ex_94.trans (iZ_add (ni * 4) 1)
                          refine lv_iload_n hx hb dX6_readIce_182 rfl (lv_at hl 2 rfl) ?_
                          refine va_iast hx hb hK hP hD hS 2 1 rfl rfl (zin (e := ((ni * 4) + 1)) (n := 32) ⟨by omega, by omega⟩ (by decide)) dX6_readIce_183 (fun H locs hP hD hS => ?_)
                          obtain ⟨f_95, hf_95⟩ : ∃ gg9, gg9 = upd f_93 (iZ ((ni * 4) + 1)).toNatClampNeg (iZ (I_27 0)) := ⟨_, rfl⟩
                          rw [← hf_95] at hP hD
                          refine lv_aload_n hx hb dX6_readIce_184 rfl (lv_at hl 5 rfl) ?_
                          refine va_get (D := D) (ci := 6) (v := .ref hs) (C := RX6) (T := TX6) (N := 3) hx hb hts iX6 hown hK hP 0 rfl rfl 1 (by decide) (hts _ qf_X6_15) (fun _ h => h) rfl dX6_readIce_185 ?_
                          refine va_get (D := D) (ci := 5) (v := .ref hg) (C := RX5) (T := TX5) (N := 7) hx hb hts iX5 hown hK hP 3 rfl rfl 2 (by decide) (hts _ qf_X6_103) (fun _ h => h) rfl dX6_readIce_188 ?_
                          refine lv_iload_n hx hb dX6_readIce_191 rfl (lv_at hl 4 rfl) ?_
                          refine lv_iconst (v := iZ 2) hx hb dX6_readIce_192 (by decide) ?_
                          refine lv_iadd hx hb dX6_readIce_193 ?_
                          refine lv_topi (fun x_96 ex_96 => ?_)
                          obtain rfl : x_96 = iZ ((ni * 4) + 2) := ex_96.trans (iZ_add (ni * 4) 2)
                          refine lv_iload hx hb dX6_readIce_194 (lv_at hl 1 rfl) ?_
                          refine va_iast hx hb hK hP hD hS 2 1 rfl rfl (zin (e := ((ni * 4) + 2)) (n := 32) ⟨by omega, by omega⟩ (by decide)) dX6_readIce_196 (fun H locs hP hD hS => ?_)
                          obtain ⟨f_97, hf_97⟩ : ∃ gg9, gg9 = upd f_95 (iZ ((ni * 4) + 2)).toNatClampNeg (iZ (I_49 0)) := ⟨_, rfl⟩
                          rw [← hf_97] at hP hD
                          refine lv_aload_n hx hb dX6_readIce_197 rfl (lv_at hl 5 rfl) ?_
                          refine va_get (D := D) (ci := 6) (v := .ref hs) (C := RX6) (T := TX6) (N := 3) hx hb hts iX6 hown hK hP 0 rfl rfl 1 (by decide) (hts _ qf_X6_15) (fun _ h => h) rfl dX6_readIce_198 ?_
                          refine va_get (D := D) (ci := 5) (v := .ref hg) (C := RX5) (T := TX5) (N := 7) hx hb hts iX5 hown hK hP 3 rfl rfl 2 (by decide) (hts _ qf_X6_103) (fun _ h => h) rfl dX6_readIce_201 ?_
                          refine lv_iload_n hx hb dX6_readIce_204 rfl (lv_at hl 4 rfl) ?_
                          refine lv_iconst (v := iZ 3) hx hb dX6_readIce_205 (by decide) ?_
                          refine lv_iadd hx hb dX6_readIce_206 ?_
                          refine lv_topi (fun x_98 ex_98 => ?_)
                          obtain rfl : x_98 = iZ ((ni * 4) + 3) := ex_98.trans (iZ_add (ni * 4) 3)
                          refine lv_iload hx hb dX6_readIce_207 (lv_at hl 0 rfl) ?_
                          refine va_iast hx hb hK hP hD hS 2 1 rfl rfl (zin (e := ((ni * 4) + 3)) (n := 32) ⟨by omega, by omega⟩ (by decide)) dX6_readIce_209 (fun H locs hP hD hS => ?_)
                          obtain ⟨f_99, hf_99⟩ : ∃ gg9, gg9 = upd f_97 (iZ ((ni * 4) + 3)).toNatClampNeg (iZ (I_71 0)) := ⟨_, rfl⟩
                          rw [← hf_99] at hP hD
                          refine lv_aload_n hx hb dX6_readIce_210 rfl (lv_at hl 5 rfl) ?_
                          refine va_get (D := D) (ci := 6) (v := .ref hs) (C := RX6) (T := TX6) (N := 3) hx hb hts iX6 hown hK hP 0 rfl rfl 1 (by decide) (hts _ qf_X6_15) (fun _ h => h) rfl dX6_readIce_211 ?_
                          refine lv_dup hx hb dX6_readIce_214 rfl ?_
                          refine va_get (D := D) (ci := 5) (v := .int (iZ ni)) (C := RX5) (T := TX5) (N := 7) hx hb hts iX5 hown hK hP 3 rfl rfl 4 (by decide) (hts _ qf_X6_96) (fun _ h => h) rfl dX6_readIce_215 ?_
                          refine lv_iconst (v := iZ 1) hx hb dX6_readIce_218 (by decide) ?_
                          refine lv_iadd hx hb dX6_readIce_219 ?_
                          refine lv_topi (fun x_100 ex_100 => ?_)
                          obtain rfl : x_100 = iZ (ni + 1) := ex_100.trans (iZ_add ni 1)
                          refine va_put (D := D) (ci := 5) (v := .int (iZ (ni + 1))) (ty := .int) (C := RX5) (T := TX5) (N := 7) hx hb hts iX5 tyX5 tyX5_ok nmX5 hown hK hP hD hS 3 rfl rfl 4 (by decide) (hts _ qf_X6_96) (fun _ h => h) rfl (by decide +kernel) rfl rfl (Nat.le_of_ble_eq_true rfl) dX6_readIce_220 (fun H locs hP hD hS => ?_)
                          refine lv_iconst (v := iZ 1) hx hb dX6_readIce_223 (by decide) ?_
                          exact EWz hx hb hr hlocks hS (fun i => [1, (I_82 1), (I_82 2), (I_82 3), (I_82 4), (I_82 5), (I_82 6), (I_82 7), (ni + 1)].getD i 0, fun i => [0, (L_83 1)].getD i 0, fun i => [f_99].getD i (fun _ => 0), fun i => [].getD i (fun _ => 0)) rfl rfl ⟨(show (0 ≤ tp ∧ tp ≤ 900) ∧ (0 ≤ ln ∧ ln ≤ 900) ∧ (0 ≤ (I_82 1) ∧ (I_82 1) ≤ (I_82 2)) ∧ ((I_82 2) ≤ ln) ∧ (0 ≤ (I_82 3) ∧ (I_82 3) ≤ 4) ∧ (-2147483648 ≤ (I_82 4) ∧ (I_82 4) < 2147483648) ∧ (-1 ≤ (I_82 5) ∧ (I_82 5) ≤ 24) from ⟨⟨by omega, by omega⟩, ⟨by omega, by omega⟩, ⟨by omega, by omega⟩, by omega, ⟨by omega, by omega⟩, ⟨by omega, by omega⟩, by omega, by omega⟩), (show 0 ≤ (ni + 1) ∧ (ni + 1) ≤ 8 from ⟨by omega, by omega⟩), (show ((1 : Int) = 1 ∧ ∃ (q9 : Int) (G9 : Int → Int), xIce (tX bf ln) N n ni G cu = .inr (q9, G9) ∧ cu < q9 ∧ RDX (tX bf ln) q9 (I_82 1) (I_82 2) (I_82 3) (I_82 4) (I_82 5) (L_83 1) ∧ xRw f_99 G9 ((ni + 1) * 4) ∧ (ni + 1) = ni + 1 ∧ (I_82 6) = fk ∧ (I_82 7) = fp) ∨ ((1 : Int) = 0 ∧ xIce (tX bf ln) N n ni G cu = .inl ((I_82 6), (I_82 7))) from (Or.inl ⟨rfl, cut_89, xUp (xUp (xUp (xUp G ((ni * 4) + 0) (I_16 0)) ((ni * 4) + 1) (I_27 0)) ((ni * 4) + 2) (I_49 0)) ((ni * 4) + 3) (I_71 0), (xIce_6 (by omega) st_23 st_34 st_45 st_56 st_67 st_78).trans (xBn_r st_89), by omega, xt_89, xIce_rw hG ⟨by omega, by omega⟩ hf_93 hf_95 hf_97 hf_99 ⟨by omega, by omega⟩ ⟨by omega, by omega⟩ ⟨by omega, by omega⟩ ⟨by omega, by omega⟩, rfl, by omega, by omega⟩))⟩ (hP.sub [0, 5, 6, 7, 3, 4, 1, 2] rfl) (hD.sub [0, 5, 6, 7, 3, 4, 1, 2] rfl rfl) dX6_readIce_224
                        ·
                          rw [qt_89]
                          refine lv_if_ne (tgt := 160) hx hb dX6_readIce_155 (by decide) (fun c => absurd (by decide) c) (fun _ => ?_)
                          refine lv_iconst (v := iZ 0) hx hb dX6_readIce_158 (by decide) ?_
                          exact EWz hx hb hr hlocks hS (fun i => [0, (I_82 1), (I_82 2), (I_82 3), (I_82 4), (I_82 5), (I_82 6), (I_82 7), ni].getD i 0, fun i => [0, (L_83 1)].getD i 0, fun i => [g].getD i (fun _ => 0), fun i => [].getD i (fun _ => 0)) rfl rfl ⟨(show (0 ≤ tp ∧ tp ≤ 900) ∧ (0 ≤ ln ∧ ln ≤ 900) ∧ (0 ≤ (I_82 1) ∧ (I_82 1) ≤ (I_82 2)) ∧ ((I_82 2) ≤ ln) ∧ (0 ≤ (I_82 3) ∧ (I_82 3) ≤ 4) ∧ (-2147483648 ≤ (I_82 4) ∧ (I_82 4) < 2147483648) ∧ (-1 ≤ (I_82 5) ∧ (I_82 5) ≤ 24) from ⟨⟨by omega, by omega⟩, ⟨by omega, by omega⟩, ⟨by omega, by omega⟩, by omega, ⟨by omega, by omega⟩, ⟨by omega, by omega⟩, by omega, by omega⟩), (show 0 ≤ ni ∧ ni ≤ 8 from ⟨by omega, by omega⟩), (show ((0 : Int) = 1 ∧ ∃ (q9 : Int) (G9 : Int → Int), xIce (tX bf ln) N n ni G cu = .inr (q9, G9) ∧ cu < q9 ∧ RDX (tX bf ln) q9 (I_82 1) (I_82 2) (I_82 3) (I_82 4) (I_82 5) (L_83 1) ∧ xRw g G9 (ni * 4) ∧ ni = ni + 1 ∧ (I_82 6) = fk ∧ (I_82 7) = fp) ∨ ((0 : Int) = 0 ∧ xIce (tX bf ln) N n ni G cu = .inl ((I_82 6), (I_82 7))) from (Or.inr ⟨rfl, (xIce_6 (G := G) (by omega) st_23 st_34 st_45 st_56 st_67 st_78).trans (xBn_l st_89)⟩))⟩ (hP.sub [0, 5, 6, 7, 3, 4, 1, 2] rfl) (hD.sub [0, 5, 6, 7, 3, 4, 1, 2] rfl rfl) dX6_readIce_159
                    ·
                      rw [qt_78]
                      refine lv_istore (lv' := [(5, .int (iZ (-1))), (4, .int (iZ (I_49 0))), (3, .int (iZ (I_27 0))), (2, .int (iZ (I_16 0))), (1, .int (iZ (ni * 4))), (0, .ref hq)]) hx hb dX6_readIce_138 hl (by decide) rfl (fun ls hl => ?_)
                      refine lv_iload hx hb dX6_readIce_140 (lv_at hl 0 rfl) ?_
                      refine lv_iconst (v := iZ (-1)) hx hb dX6_readIce_142 (by decide) ?_
                      refine lv_icmp_eq (tgt := 158) hx hb dX6_readIce_143 (by decide) (fun _ => ?_) (fun c => absurd (by decide) c)
                      refine lv_iconst (v := iZ 0) hx hb dX6_readIce_158 (by decide) ?_
                      exact EWz hx hb hr hlocks hS (fun i => [0, (I_71 1), (I_71 2), (I_71 3), (I_71 4), (I_71 5), (I_71 6), (I_71 7), ni].getD i 0, fun i => [0, (L_72 1)].getD i 0, fun i => [g].getD i (fun _ => 0), fun i => [].getD i (fun _ => 0)) rfl rfl ⟨(show (0 ≤ tp ∧ tp ≤ 900) ∧ (0 ≤ ln ∧ ln ≤ 900) ∧ (0 ≤ (I_71 1) ∧ (I_71 1) ≤ (I_71 2)) ∧ ((I_71 2) ≤ ln) ∧ (0 ≤ (I_71 3) ∧ (I_71 3) ≤ 4) ∧ (-2147483648 ≤ (I_71 4) ∧ (I_71 4) < 2147483648) ∧ (-1 ≤ (I_71 5) ∧ (I_71 5) ≤ 24) from ⟨⟨by omega, by omega⟩, ⟨by omega, by omega⟩, ⟨by omega, by omega⟩, by omega, ⟨by omega, by omega⟩, ⟨by omega, by omega⟩, by omega, by omega⟩), (show 0 ≤ ni ∧ ni ≤ 8 from ⟨by omega, by omega⟩), (show ((0 : Int) = 1 ∧ ∃ (q9 : Int) (G9 : Int → Int), xIce (tX bf ln) N n ni G cu = .inr (q9, G9) ∧ cu < q9 ∧ RDX (tX bf ln) q9 (I_71 1) (I_71 2) (I_71 3) (I_71 4) (I_71 5) (L_72 1) ∧ xRw g G9 (ni * 4) ∧ ni = ni + 1 ∧ (I_71 6) = fk ∧ (I_71 7) = fp) ∨ ((0 : Int) = 0 ∧ xIce (tX bf ln) N n ni G cu = .inl ((I_71 6), (I_71 7))) from (Or.inr ⟨rfl, xIce_l5 (by omega) st_23 st_34 st_45 st_56 st_67 st_78⟩))⟩ (hP.sub [0, 5, 6, 7, 3, 4, 1, 2] rfl) (hD.sub [0, 5, 6, 7, 3, 4, 1, 2] rfl rfl) dX6_readIce_159
                  ·
                    rw [qt_67]
                    refine lv_if_ne (tgt := 126) hx hb dX6_readIce_121 (by decide) (fun c => absurd (by decide) c) (fun _ => ?_)
                    refine lv_iconst (v := iZ 0) hx hb dX6_readIce_124 (by decide) ?_
                    exact EWz hx hb hr hlocks hS (fun i => [0, (I_60 1), (I_60 2), (I_60 3), (I_60 4), (I_60 5), (I_60 6), (I_60 7), ni].getD i 0, fun i => [0, (L_61 1)].getD i 0, fun i => [g].getD i (fun _ => 0), fun i => [].getD i (fun _ => 0)) rfl rfl ⟨(show (0 ≤ tp ∧ tp ≤ 900) ∧ (0 ≤ ln ∧ ln ≤ 900) ∧ (0 ≤ (I_60 1) ∧ (I_60 1) ≤ (I_60 2)) ∧ ((I_60 2) ≤ ln) ∧ (0 ≤ (I_60 3) ∧ (I_60 3) ≤ 4) ∧ (-2147483648 ≤ (I_60 4) ∧ (I_60 4) < 2147483648) ∧ (-1 ≤ (I_60 5) ∧ (I_60 5) ≤ 24) from ⟨⟨by omega, by omega⟩, ⟨by omega, by omega⟩, ⟨by omega, by omega⟩, by omega, ⟨by omega, by omega⟩, ⟨by omega, by omega⟩, by omega, by omega⟩), (show 0 ≤ ni ∧ ni ≤ 8 from ⟨by omega, by omega⟩), (show ((0 : Int) = 1 ∧ ∃ (q9 : Int) (G9 : Int → Int), xIce (tX bf ln) N n ni G cu = .inr (q9, G9) ∧ cu < q9 ∧ RDX (tX bf ln) q9 (I_60 1) (I_60 2) (I_60 3) (I_60 4) (I_60 5) (L_61 1) ∧ xRw g G9 (ni * 4) ∧ ni = ni + 1 ∧ (I_60 6) = fk ∧ (I_60 7) = fp) ∨ ((0 : Int) = 0 ∧ xIce (tX bf ln) N n ni G cu = .inl ((I_60 6), (I_60 7))) from (Or.inr ⟨rfl, xIce_l4 (by omega) st_23 st_34 st_45 st_56 st_67⟩))⟩ (hP.sub [0, 5, 6, 7, 3, 4, 1, 2] rfl) (hD.sub [0, 5, 6, 7, 3, 4, 1, 2] rfl rfl) dX6_readIce_125
              ·
                rw [qt_56]
                refine lv_istore (lv' := [(4, .int (iZ (-1))), (3, .int (iZ (I_27 0))), (2, .int (iZ (I_16 0))), (1, .int (iZ (ni * 4))), (0, .ref hq)]) hx hb dX6_readIce_104 hl (by decide) rfl (fun ls hl => ?_)
                refine lv_iload hx hb dX6_readIce_106 (lv_at hl 0 rfl) ?_
                refine lv_iconst (v := iZ (-1)) hx hb dX6_readIce_108 (by decide) ?_
                refine lv_icmp_eq (tgt := 124) hx hb dX6_readIce_109 (by decide) (fun _ => ?_) (fun c => absurd (by decide) c)
                refine lv_iconst (v := iZ 0) hx hb dX6_readIce_124 (by decide) ?_
                exact EWz hx hb hr hlocks hS (fun i => [0, (I_49 1), (I_49 2), (I_49 3), (I_49 4), (I_49 5), (I_49 6), (I_49 7), ni].getD i 0, fun i => [0, (L_50 1)].getD i 0, fun i => [g].getD i (fun _ => 0), fun i => [].getD i (fun _ => 0)) rfl rfl ⟨(show (0 ≤ tp ∧ tp ≤ 900) ∧ (0 ≤ ln ∧ ln ≤ 900) ∧ (0 ≤ (I_49 1) ∧ (I_49 1) ≤ (I_49 2)) ∧ ((I_49 2) ≤ ln) ∧ (0 ≤ (I_49 3) ∧ (I_49 3) ≤ 4) ∧ (-2147483648 ≤ (I_49 4) ∧ (I_49 4) < 2147483648) ∧ (-1 ≤ (I_49 5) ∧ (I_49 5) ≤ 24) from ⟨⟨by omega, by omega⟩, ⟨by omega, by omega⟩, ⟨by omega, by omega⟩, by omega, ⟨by omega, by omega⟩, ⟨by omega, by omega⟩, by omega, by omega⟩), (show 0 ≤ ni ∧ ni ≤ 8 from ⟨by omega, by omega⟩), (show ((0 : Int) = 1 ∧ ∃ (q9 : Int) (G9 : Int → Int), xIce (tX bf ln) N n ni G cu = .inr (q9, G9) ∧ cu < q9 ∧ RDX (tX bf ln) q9 (I_49 1) (I_49 2) (I_49 3) (I_49 4) (I_49 5) (L_50 1) ∧ xRw g G9 (ni * 4) ∧ ni = ni + 1 ∧ (I_49 6) = fk ∧ (I_49 7) = fp) ∨ ((0 : Int) = 0 ∧ xIce (tX bf ln) N n ni G cu = .inl ((I_49 6), (I_49 7))) from (Or.inr ⟨rfl, xIce_l3 (by omega) st_23 st_34 st_45 st_56⟩))⟩ (hP.sub [0, 5, 6, 7, 3, 4, 1, 2] rfl) (hD.sub [0, 5, 6, 7, 3, 4, 1, 2] rfl rfl) dX6_readIce_125
            ·
              rw [qt_45]
              refine lv_if_ne (tgt := 93) hx hb dX6_readIce_88 (by decide) (fun c => absurd (by decide) c) (fun _ => ?_)
              refine lv_iconst (v := iZ 0) hx hb dX6_readIce_91 (by decide) ?_
              exact EWz hx hb hr hlocks hS (fun i => [0, (I_38 1), (I_38 2), (I_38 3), (I_38 4), (I_38 5), (I_38 6), (I_38 7), ni].getD i 0, fun i => [0, (L_39 1)].getD i 0, fun i => [g].getD i (fun _ => 0), fun i => [].getD i (fun _ => 0)) rfl rfl ⟨(show (0 ≤ tp ∧ tp ≤ 900) ∧ (0 ≤ ln ∧ ln ≤ 900) ∧ (0 ≤ (I_38 1) ∧ (I_38 1) ≤ (I_38 2)) ∧ ((I_38 2) ≤ ln) ∧ (0 ≤ (I_38 3) ∧ (I_38 3) ≤ 4) ∧ (-2147483648 ≤ (I_38 4) ∧ (I_38 4) < 2147483648) ∧ (-1 ≤ (I_38 5) ∧ (I_38 5) ≤ 24) from ⟨⟨by omega, by omega⟩, ⟨by omega, by omega⟩, ⟨by omega, by omega⟩, by omega, ⟨by omega, by omega⟩, ⟨by omega, by omega⟩, by omega, by omega⟩), (show 0 ≤ ni ∧ ni ≤ 8 from ⟨by omega, by omega⟩), (show ((0 : Int) = 1 ∧ ∃ (q9 : Int) (G9 : Int → Int), xIce (tX bf ln) N n ni G cu = .inr (q9, G9) ∧ cu < q9 ∧ RDX (tX bf ln) q9 (I_38 1) (I_38 2) (I_38 3) (I_38 4) (I_38 5) (L_39 1) ∧ xRw g G9 (ni * 4) ∧ ni = ni + 1 ∧ (I_38 6) = fk ∧ (I_38 7) = fp) ∨ ((0 : Int) = 0 ∧ xIce (tX bf ln) N n ni G cu = .inl ((I_38 6), (I_38 7))) from (Or.inr ⟨rfl, xIce_l2 (by omega) st_23 st_34 st_45⟩))⟩ (hP.sub [0, 5, 6, 7, 3, 4, 1, 2] rfl) (hD.sub [0, 5, 6, 7, 3, 4, 1, 2] rfl rfl) dX6_readIce_92
        ·
          rw [qt_34]
          refine lv_istore_n (lv' := [(3, .int (iZ (-1))), (2, .int (iZ (I_16 0))), (1, .int (iZ (ni * 4))), (0, .ref hq)]) hx hb dX6_readIce_73 rfl hl (by decide) rfl (fun ls hl => ?_)
          refine lv_iload_n hx hb dX6_readIce_74 rfl (lv_at hl 0 rfl) ?_
          refine lv_iconst (v := iZ (-1)) hx hb dX6_readIce_75 (by decide) ?_
          refine lv_icmp_eq (tgt := 91) hx hb dX6_readIce_76 (by decide) (fun _ => ?_) (fun c => absurd (by decide) c)
          refine lv_iconst (v := iZ 0) hx hb dX6_readIce_91 (by decide) ?_
          exact EWz hx hb hr hlocks hS (fun i => [0, (I_27 1), (I_27 2), (I_27 3), (I_27 4), (I_27 5), (I_27 6), (I_27 7), ni].getD i 0, fun i => [0, (L_28 1)].getD i 0, fun i => [g].getD i (fun _ => 0), fun i => [].getD i (fun _ => 0)) rfl rfl ⟨(show (0 ≤ tp ∧ tp ≤ 900) ∧ (0 ≤ ln ∧ ln ≤ 900) ∧ (0 ≤ (I_27 1) ∧ (I_27 1) ≤ (I_27 2)) ∧ ((I_27 2) ≤ ln) ∧ (0 ≤ (I_27 3) ∧ (I_27 3) ≤ 4) ∧ (-2147483648 ≤ (I_27 4) ∧ (I_27 4) < 2147483648) ∧ (-1 ≤ (I_27 5) ∧ (I_27 5) ≤ 24) from ⟨⟨by omega, by omega⟩, ⟨by omega, by omega⟩, ⟨by omega, by omega⟩, by omega, ⟨by omega, by omega⟩, ⟨by omega, by omega⟩, by omega, by omega⟩), (show 0 ≤ ni ∧ ni ≤ 8 from ⟨by omega, by omega⟩), (show ((0 : Int) = 1 ∧ ∃ (q9 : Int) (G9 : Int → Int), xIce (tX bf ln) N n ni G cu = .inr (q9, G9) ∧ cu < q9 ∧ RDX (tX bf ln) q9 (I_27 1) (I_27 2) (I_27 3) (I_27 4) (I_27 5) (L_28 1) ∧ xRw g G9 (ni * 4) ∧ ni = ni + 1 ∧ (I_27 6) = fk ∧ (I_27 7) = fp) ∨ ((0 : Int) = 0 ∧ xIce (tX bf ln) N n ni G cu = .inl ((I_27 6), (I_27 7))) from (Or.inr ⟨rfl, xIce_l1 (by omega) st_23 st_34⟩))⟩ (hP.sub [0, 3, 4, 5, 6, 7, 1, 2] rfl) (hD.sub [0, 3, 4, 5, 6, 7, 1, 2] rfl rfl) dX6_readIce_92
      ·
        have c_25 := (zeq (x := iZ (I_16 0)) (y := iZ (-1)) rfl rfl ⟨by omega, by omega⟩ ⟨by omega, by omega⟩).mp c_25
        exact absurd c_25 (by omega)
    ·
      rw [qt_23]
      refine lv_istore_n (lv' := [(2, .int (iZ (-1))), (1, .int (iZ (ni * 4))), (0, .ref hq)]) hx hb dX6_readIce_51 rfl hl (by decide) rfl (fun ls hl => ?_)
      refine lv_iload_n hx hb dX6_readIce_52 rfl (lv_at hl 0 rfl) ?_
      refine lv_iconst (v := iZ (-1)) hx hb dX6_readIce_53 (by decide) ?_
      refine lv_icmp_ne (tgt := 61) hx hb dX6_readIce_54 (by decide) (fun c => absurd (by decide) c) (fun _ => ?_)
      refine lv_iconst (v := iZ (-1)) hx hb dX6_readIce_57 (by decide) ?_
      refine lv_goto (tgt := 73) hx hb dX6_readIce_58 (by decide) ?_
      refine lv_istore_n (lv' := [(3, .int (iZ (-1))), (2, .int (iZ (-1))), (1, .int (iZ (ni * 4))), (0, .ref hq)]) hx hb dX6_readIce_73 rfl hl (by decide) rfl (fun ls hl => ?_)
      refine lv_iload_n hx hb dX6_readIce_74 rfl (lv_at hl 0 rfl) ?_
      refine lv_iconst (v := iZ (-1)) hx hb dX6_readIce_75 (by decide) ?_
      refine lv_icmp_eq (tgt := 91) hx hb dX6_readIce_76 (by decide) (fun _ => ?_) (fun c => absurd (by decide) c)
      refine lv_iconst (v := iZ 0) hx hb dX6_readIce_91 (by decide) ?_
      exact EWz hx hb hr hlocks hS (fun i => [0, (I_16 1), (I_16 2), (I_16 3), (I_16 4), (I_16 5), (I_16 6), (I_16 7), ni].getD i 0, fun i => [0, (L_17 1)].getD i 0, fun i => [g].getD i (fun _ => 0), fun i => [].getD i (fun _ => 0)) rfl rfl ⟨(show (0 ≤ tp ∧ tp ≤ 900) ∧ (0 ≤ ln ∧ ln ≤ 900) ∧ (0 ≤ (I_16 1) ∧ (I_16 1) ≤ (I_16 2)) ∧ ((I_16 2) ≤ ln) ∧ (0 ≤ (I_16 3) ∧ (I_16 3) ≤ 4) ∧ (-2147483648 ≤ (I_16 4) ∧ (I_16 4) < 2147483648) ∧ (-1 ≤ (I_16 5) ∧ (I_16 5) ≤ 24) from ⟨⟨by omega, by omega⟩, ⟨by omega, by omega⟩, ⟨by omega, by omega⟩, by omega, ⟨by omega, by omega⟩, ⟨by omega, by omega⟩, by omega, by omega⟩), (show 0 ≤ ni ∧ ni ≤ 8 from ⟨by omega, by omega⟩), (show ((0 : Int) = 1 ∧ ∃ (q9 : Int) (G9 : Int → Int), xIce (tX bf ln) N n ni G cu = .inr (q9, G9) ∧ cu < q9 ∧ RDX (tX bf ln) q9 (I_16 1) (I_16 2) (I_16 3) (I_16 4) (I_16 5) (L_17 1) ∧ xRw g G9 (ni * 4) ∧ ni = ni + 1 ∧ (I_16 6) = fk ∧ (I_16 7) = fp) ∨ ((0 : Int) = 0 ∧ xIce (tX bf ln) N n ni G cu = .inl ((I_16 6), (I_16 7))) from (Or.inr ⟨rfl, xIce_l0 (by omega) st_23⟩))⟩ (hP.sub [0, 3, 4, 5, 6, 7, 1, 2] rfl) (hD.sub [0, 3, 4, 5, 6, 7, 1, 2] rfl rfl) dX6_readIce_92
  ·
    have c_2 := mt (zlt (x := iZ ni) (y := iZ 8) rfl rfl ⟨by omega, by omega⟩ ⟨by omega, by omega⟩).mpr c_2
    refine lv_aload_n hx hb dX6_readIce_12 rfl (lv_at hl 0 rfl) ?_
    refine va_get (D := D) (ci := 6) (v := .ref hr1) (C := RX6) (T := TX6) (N := 3) hx hb hts iX6 hown hK hP 0 rfl rfl 0 (by decide) (hts _ qf_X6_9) (fun _ h => h) rfl dX6_readIce_13 ?_
    refine lv_bipush (v := iZ 6) hx hb dX6_readIce_16 (by decide) ?_
    refine CWV (As := [.int (iZ 6)]) (rest := []) (wc := [(hr1, .inr (4, [.ref tx, .ref kw, .int (iZ tp), .int (iZ ln), .int (iZ pl), .int (iZ en), .int (iZ ki), .int (iZ va), .int (iZ ke), .long nm, .int (iZ fk), .int (iZ fp)])), (tx, .inl (k 0, 900, .inl bf)), (kw, .inl (k 2, 25, .inr (.inl kwf)))]) (wr := [(hq, .inr (6, [.ref hr1, .ref hs, .int (iZ lt)])), (hs, .inr (5, [.ref hN, .ref hf, .ref hg, .int (iZ n), .int (iZ ni), .int (iZ lw), .int (iZ we)])), (hN, .inl (k 2, 6, .inr (.inl nf))), (hf, .inl (k 1, 36, .inl f)), (hg, .inl (k 1, 32, .inl g))]) hx hb hml hown hts hKK hP hD hS hA (x_fail l D k hr1 tx kw tp ln pl en ki va ke fk fp nm bf kwf cu 6 ⟨⟨by omega, by omega⟩, ⟨by omega, by omega⟩, ⟨by omega, by omega⟩, by omega, ⟨by omega, by omega⟩, ⟨by omega, by omega⟩, by omega, by omega⟩ hrx) ci_X4_fail qm_X6_47 ⟨Nat.le_of_ble_eq_true rfl, Nat.le_of_ble_eq_true rfl⟩ ⟨Nat.le_of_ble_eq_true rfl, Nat.le_of_ble_eq_true rfl⟩ [1, 2, 3] [0, 4, 5, 6, 7] rfl rfl rfl rfl rfl (by decide) 0 rfl rfl rfl hl.1 rfl (Nat.le_of_ble_eq_true rfl) dX6_readIce_18 (fun u_109 H locs hφ hP hD hS => ?_)
    obtain ⟨I_110, L_111, F_112, G_113⟩ := u_109
    have p_115 : (I_110 1) = xFl (tX bf ln) cu 6 ∧ (I_110 2) = xPl (tX bf ln) cu := hφ
    refine W.eq (g2 := F0 m 21 ls [.int (iZ 0)]) rfl ?_
    exact EWz hx hb hr hlocks hS (fun i => [0, pl, en, ki, va, ke, (I_110 1), (I_110 2), ni].getD i 0, fun i => [0, nm].getD i 0, fun i => [g].getD i (fun _ => 0), fun i => [].getD i (fun _ => 0)) rfl rfl ⟨(show (0 ≤ tp ∧ tp ≤ 900) ∧ (0 ≤ ln ∧ ln ≤ 900) ∧ (0 ≤ pl ∧ pl ≤ en) ∧ (en ≤ ln) ∧ (0 ≤ ki ∧ ki ≤ 4) ∧ (-2147483648 ≤ va ∧ va < 2147483648) ∧ (-1 ≤ ke ∧ ke ≤ 24) from ⟨⟨by omega, by omega⟩, ⟨by omega, by omega⟩, ⟨by omega, by omega⟩, by omega, ⟨by omega, by omega⟩, ⟨by omega, by omega⟩, by omega, by omega⟩), (show 0 ≤ ni ∧ ni ≤ 8 from ⟨by omega, by omega⟩), (show ((0 : Int) = 1 ∧ ∃ (q9 : Int) (G9 : Int → Int), xIce (tX bf ln) N n ni G cu = .inr (q9, G9) ∧ cu < q9 ∧ RDX (tX bf ln) q9 pl en ki va ke nm ∧ xRw g G9 (ni * 4) ∧ ni = ni + 1 ∧ (I_110 1) = fk ∧ (I_110 2) = fp) ∨ ((0 : Int) = 0 ∧ xIce (tX bf ln) N n ni G cu = .inl ((I_110 1), (I_110 2))) from (Or.inr ⟨rfl, xIce_8 (by omega) p_115⟩))⟩ (hP.sub [0, 5, 6, 7, 1, 2, 3, 4] rfl) (hD.sub [0, 5, 6, 7, 1, 2, 3, 4] rfl rfl) dX6_readIce_21
theorem xLo_c (k : Int) : (k = 12 ∧ xLo k = 0) ∨ (k = 13 ∧ xLo k = 1) ∨ (k = 4 ∧ xLo k = 2) ∨ (k = 14 ∧ xLo k = 3) ∨ ((¬ k = 12 ∧ ¬ k = 13 ∧ ¬ k = 4 ∧ ¬ k = 14) ∧ xLo k = -1) := by
  unfold xLo
  by_cases h1 : k = 12
  · rw [if_pos h1]; omega
  · rw [if_neg h1]
    by_cases h2 : k = 13
    · rw [if_pos h2]; omega
    · rw [if_neg h2]
      by_cases h3 : k = 4
      · rw [if_pos h3]; omega
      · rw [if_neg h3]
        by_cases h4 : k = 14
        · rw [if_pos h4]; omega
        · rw [if_neg h4]; omega
set_option maxHeartbeats 4000000 in
set_option maxRecDepth 100000 in
theorem x_lawOf (l : Launch) (D : va_G) (k : Nat → ClassId) (x : Int) (hx9 : -2147483648 ≤ x ∧ x < 2147483648) : RP l yX6_lawOf cX6_lawOf 1 (some .int) 0 D k [.int (iZ x)] [] (fun z => z = xLo x ∧ -1 ≤ z ∧ z ≤ 3) := by
  refine MRP (by decide) (Nat.le_of_ble_eq_true rfl) (fun p e s m below meth c ls hx hb hml hr hlocks hts hown hKK hP hl => ?_)
  have hK := hKK.1
  have hl : lv_has ls 1 [(0, .int (iZ x))] := hl
  refine lv_iload_n hx hb dX6_lawOf_0 rfl (lv_at hl 0 rfl) ?_
  rcases Classical.em (x = 4) with c_1 | c_1
  ·
    refine lv_lookup (tgt := 48) (off := 47) hx hb dX6_lawOf_1 (by decide) (by rw [iZ_ti ⟨by omega, by omega⟩, c_1]; decide) (by decide) ?_
    refine lv_iconst (v := iZ 2) hx hb dX6_lawOf_48 (by decide) ?_
    exact EPi hx hb hr hlocks ⟨by have h9 := xLo_c x; omega, by omega, by omega⟩ dX6_lawOf_49
  ·
    rcases Classical.em (x = 12) with c_2 | c_2
    ·
      refine lv_lookup (tgt := 44) (off := 43) hx hb dX6_lawOf_1 (by decide) (by rw [iZ_ti ⟨by omega, by omega⟩, c_2]; decide) (by decide) ?_
      refine lv_iconst (v := iZ 0) hx hb dX6_lawOf_44 (by decide) ?_
      exact EPi hx hb hr hlocks ⟨by have h9 := xLo_c x; omega, by omega, by omega⟩ dX6_lawOf_45
    ·
      rcases Classical.em (x = 13) with c_3 | c_3
      ·
        refine lv_lookup (tgt := 46) (off := 45) hx hb dX6_lawOf_1 (by decide) (by rw [iZ_ti ⟨by omega, by omega⟩, c_3]; decide) (by decide) ?_
        refine lv_iconst (v := iZ 1) hx hb dX6_lawOf_46 (by decide) ?_
        exact EPi hx hb hr hlocks ⟨by have h9 := xLo_c x; omega, by omega, by omega⟩ dX6_lawOf_47
      ·
        rcases Classical.em (x = 14) with c_4 | c_4
        ·
          refine lv_lookup (tgt := 50) (off := 49) hx hb dX6_lawOf_1 (by decide) (by rw [iZ_ti ⟨by omega, by omega⟩, c_4]; decide) (by decide) ?_
          refine lv_iconst (v := iZ 3) hx hb dX6_lawOf_50 (by decide) ?_
          exact EPi hx hb hr hlocks ⟨by have h9 := xLo_c x; omega, by omega, by omega⟩ dX6_lawOf_51
        ·
          refine lv_lookup (tgt := 52) (off := 51) hx hb dX6_lawOf_1 (by decide) (by rw [iZ_ti ⟨by omega, by omega⟩]; simp [Op.lookupswitch.offset, show ¬ (x : Int) = 4 from c_1, show ¬ (4 : Int) = x from fun h => c_1 h.symm, show ¬ (x : Int) = 12 from c_2, show ¬ (12 : Int) = x from fun h => c_2 h.symm, show ¬ (x : Int) = 13 from c_3, show ¬ (13 : Int) = x from fun h => c_3 h.symm, show ¬ (x : Int) = 14 from c_4, show ¬ (14 : Int) = x from fun h => c_4 h.symm]) (by decide) ?_
          refine lv_iconst (v := iZ (-1)) hx hb dX6_lawOf_52 (by decide) ?_
          exact EPi hx hb hr hlocks ⟨by have h9 := xLo_c x; omega, by omega, by omega⟩ dX6_lawOf_53
set_option maxHeartbeats 4000000 in
set_option maxRecDepth 100000 in
theorem x_readLaw (l : Launch) (D : va_G) (k : Nat → ClassId) (hq : Nat) (hr1 : Nat) (tx : Nat) (kw : Nat) (lt : Int) (tp : Int) (ln : Int) (pl : Int) (en : Int) (ki : Int) (va : Int) (ke : Int) (fk : Int) (fp : Int) (nm : Int64) (bf : Nat → Int32) (kwf : Nat → Int64) (hs : Nat) (hN : Nat) (hf : Nat) (hg : Nat) (n : Int) (ni : Int) (lw : Int) (we : Int) (nf : Nat → Int64) (f : Nat → Int32) (g : Nat → Int32) (cu : Int) (hI1 : (0 ≤ tp ∧ tp ≤ 900) ∧ (0 ≤ ln ∧ ln ≤ 900) ∧ (0 ≤ pl ∧ pl ≤ en) ∧ (en ≤ ln) ∧ (0 ≤ ki ∧ ki ≤ 4) ∧ (-2147483648 ≤ va ∧ va < 2147483648) ∧ (-1 ≤ ke ∧ ke ≤ 24)) (hbf : rgI bf (-128) 127 900) (hkw : ∀ j : Nat, j < 25 → kwf j = lZ (kwC j)) (hrx : RDX (tX bf ln) cu pl en ki va ke nm) (hlt : lt = 0 ∨ lt = 1) (hlw : 0 ≤ lw ∧ lw ≤ 3) (hnk : ¬ ki = 0) : WD (σ := ((Nat → Int) × (Nat → Int64) × (Nat → Nat → Int32) × (Nat → Nat → Int64))) l yX6_readLaw cX6_readLaw 2 (some .boolean) 3 0 0 D k [.ref hq] [(hq, .inr (6, [.ref hr1, .ref hs, .int (iZ lt)])), (hr1, .inr (4, [.ref tx, .ref kw, .int (iZ tp), .int (iZ ln), .int (iZ pl), .int (iZ en), .int (iZ ki), .int (iZ va), .int (iZ ke), .long nm, .int (iZ fk), .int (iZ fp)])), (tx, .inl (k 0, 900, .inl bf)), (kw, .inl (k 2, 25, .inr (.inl kwf))), (hs, .inr (5, [.ref hN, .ref hf, .ref hg, .int (iZ n), .int (iZ ni), .int (iZ lw), .int (iZ we)])), (hN, .inl (k 2, 6, .inr (.inl nf))), (hf, .inl (k 1, 36, .inl f)), (hg, .inl (k 1, 32, .inl g))] (fun u => some (.int (iZ (u.1 0)))) (fun u => ((0 ≤ tp ∧ tp ≤ 900) ∧ (0 ≤ ln ∧ ln ≤ 900) ∧ (0 ≤ (u.1 1) ∧ (u.1 1) ≤ (u.1 2)) ∧ ((u.1 2) ≤ ln) ∧ (0 ≤ (u.1 3) ∧ (u.1 3) ≤ 4) ∧ (-2147483648 ≤ (u.1 4) ∧ (u.1 4) < 2147483648) ∧ (-1 ≤ (u.1 5) ∧ (u.1 5) ≤ 24)) ∧ ((((u.1 9) : Int) = 0 ∨ ((u.1 9) : Int) = 1) ∧ 0 ≤ ((u.1 8) : Int) ∧ ((u.1 8) : Int) ≤ 3) ∧ ((((u.1 0) : Int) = 1 ∧ ∃ q9 : Int, xLaw (tX bf ln) lt cu = .inr (q9, (u.1 8)) ∧ cu < q9 ∧ RDX (tX bf ln) q9 (u.1 1) (u.1 2) (u.1 3) (u.1 4) (u.1 5) (u.2.1 1) ∧ ((u.1 9) : Int) = 1 ∧ (u.1 6) = fk ∧ (u.1 7) = fp) ∨ (((u.1 0) : Int) = 0 ∧ xLaw (tX bf ln) lt cu = .inl ((u.1 6), (u.1 7))))) (fun u => [(hq, .inr (6, [.ref hr1, .ref hs, .int (iZ (u.1 9))])), (hr1, .inr (4, [.ref tx, .ref kw, .int (iZ tp), .int (iZ ln), .int (iZ (u.1 1)), .int (iZ (u.1 2)), .int (iZ (u.1 3)), .int (iZ (u.1 4)), .int (iZ (u.1 5)), .long (u.2.1 1), .int (iZ (u.1 6)), .int (iZ (u.1 7))])), (tx, .inl (k 0, 900, .inl bf)), (kw, .inl (k 2, 25, .inr (.inl kwf))), (hs, .inr (5, [.ref hN, .ref hf, .ref hg, .int (iZ n), .int (iZ ni), .int (iZ (u.1 8)), .int (iZ we)])), (hN, .inl (k 2, 6, .inr (.inl nf))), (hf, .inl (k 1, 36, .inl f)), (hg, .inl (k 1, 32, .inl g))]) := by
  refine MW (by decide) (Nat.le_of_ble_eq_true rfl) (fun p e s m below meth c ls A hx hb hml hr hlocks hin hts hown hKK hP hD hS hA hl => ?_)
  have hK := hKK.1
  have hl : lv_has ls 2 [(0, .ref hq)] := hl
  obtain ⟨⟨ar_1, br_1⟩, cr_1, dr_1, er_1, fr_1, gr_1, hr_1⟩ := id hrx
  refine lv_aload_n hx hb dX6_readLaw_0 rfl (lv_at hl 0 rfl) ?_
  refine va_get (D := D) (ci := 6) (v := .int (iZ lt)) (C := RX6) (T := TX6) (N := 3) hx hb hts iX6 hown hK hP 0 rfl rfl 2 (by decide) (hts _ qf_X6_24) (fun _ h => h) rfl dX6_readLaw_1 ?_
  refine lv_if_eq (tgt := 16) hx hb dX6_readLaw_4 (by decide) (fun c_2 => ?_) (fun c_2 => ?_)
  ·
    have c_2 := (zeq (x := iZ lt) (y := iZ 0) rfl rfl ⟨by omega, by omega⟩ ⟨by omega, by omega⟩).mp c_2
    refine lv_aload_n hx hb dX6_readLaw_16 rfl (lv_at hl 0 rfl) ?_
    refine lv_iconst (v := iZ 1) hx hb dX6_readLaw_17 (by decide) ?_
    refine va_put (D := D) (ci := 6) (v := .int (iZ 1)) (ty := .boolean) (C := RX6) (T := TX6) (N := 3) hx hb hts iX6 tyX6 tyX6_ok nmX6 hown hK hP hD hS 0 rfl rfl 2 (by decide) (hts _ qf_X6_24) (fun _ h => h) rfl (by decide +kernel) rfl rfl (Nat.le_of_ble_eq_true rfl) dX6_readLaw_18 (fun H locs hP hD hS => ?_)
    refine lv_aload_n hx hb dX6_readLaw_21 rfl (lv_at hl 0 rfl) ?_
    refine va_get (D := D) (ci := 6) (v := .ref hr1) (C := RX6) (T := TX6) (N := 3) hx hb hts iX6 hown hK hP 0 rfl rfl 0 (by decide) (hts _ qf_X6_9) (fun _ h => h) rfl dX6_readLaw_22 ?_
    refine CWV (As := []) (rest := []) (wc := [(hr1, .inr (4, [.ref tx, .ref kw, .int (iZ tp), .int (iZ ln), .int (iZ pl), .int (iZ en), .int (iZ ki), .int (iZ va), .int (iZ ke), .long nm, .int (iZ fk), .int (iZ fp)])), (tx, .inl (k 0, 900, .inl bf)), (kw, .inl (k 2, 25, .inr (.inl kwf)))]) (wr := [(hq, .inr (6, [.ref hr1, .ref hs, .int (iZ 1)])), (hs, .inr (5, [.ref hN, .ref hf, .ref hg, .int (iZ n), .int (iZ ni), .int (iZ lw), .int (iZ we)])), (hN, .inl (k 2, 6, .inr (.inl nf))), (hf, .inl (k 1, 36, .inl f)), (hg, .inl (k 1, 32, .inl g))]) hx hb hml hown hts hKK hP hD hS hA (x_next l D k hr1 tx kw tp ln pl en ki va ke fk fp nm bf kwf ⟨⟨by omega, by omega⟩, ⟨by omega, by omega⟩, by omega, by omega⟩ hbf hkw) ci_X4_next qm_X6_54 ⟨Nat.le_of_ble_eq_true rfl, Nat.le_of_ble_eq_true rfl⟩ ⟨Nat.le_of_ble_eq_true rfl, Nat.le_of_ble_eq_true rfl⟩ [1, 2, 3] [0, 4, 5, 6, 7] rfl rfl rfl rfl rfl (by decide) 0 rfl rfl rfl hl.1 rfl (Nat.le_of_ble_eq_true rfl) dX6_readLaw_25 (fun u_3 H locs hφ hP hD hS => ?_)
    obtain ⟨I_4, L_5, F_6, G_7⟩ := u_3
    obtain ⟨p_9, p_10⟩ : (RDX (tX bf ln) en (I_4 1) (I_4 2) (I_4 3) (I_4 4) (I_4 5) (L_5 1)) ∧ ((0 ≤ tp ∧ tp ≤ 900) ∧ (0 ≤ ln ∧ ln ≤ 900) ∧ (0 ≤ (I_4 1) ∧ (I_4 1) ≤ (I_4 2)) ∧ ((I_4 2) ≤ ln) ∧ (0 ≤ (I_4 3) ∧ (I_4 3) ≤ 4) ∧ (-2147483648 ≤ (I_4 4) ∧ (I_4 4) < 2147483648) ∧ (-1 ≤ (I_4 5) ∧ (I_4 5) ≤ 24)) := hφ
    have rx_11 := RDX.nx hrx p_9
    obtain ⟨⟨ar_12, br_12⟩, cr_12, dr_12, er_12, fr_12, gr_12, hr_12⟩ := id rx_11
    obtain ⟨t1u_13, t2u_13, t3u_13, t4u_13, t5u_13, t6u_13, t7u_13⟩ := id p_10
    refine W.eq (g2 := F0 m 28 ls []) rfl ?_
    refine lv_aload_n hx hb dX6_readLaw_28 rfl (lv_at hl 0 rfl) ?_
    refine va_get (D := D) (ci := 6) (v := .ref hr1) (C := RX6) (T := TX6) (N := 3) hx hb hts iX6 hown hK hP 0 rfl rfl 0 (by decide) (hts _ qf_X6_9) (fun _ h => h) rfl dX6_readLaw_29 ?_
    refine va_get (D := D) (ci := 4) (v := .int (iZ (I_4 5))) (C := RX4) (T := TX4) (N := 12) hx hb hts iX4 hown hK hP 5 rfl rfl 8 (by decide) (hts _ qf_X6_34) (fun _ h => h) rfl dX6_readLaw_32 ?_
    refine CPS (As := [.int (iZ (I_4 5))]) (rest := []) hx hb hml hown hts hKK (hP.sub (ws' := []) [] rfl) (x_lawOf l D k (I_4 5) ⟨by omega, by omega⟩) ci_X6_lawOf qm_X6_106 ⟨Nat.le_of_ble_eq_true rfl, Nat.le_of_ble_eq_true rfl⟩ ⟨Nat.le_of_ble_eq_true rfl, Nat.le_of_ble_eq_true rfl⟩ rfl hl.1 rfl (Nat.le_of_ble_eq_true rfl) dX6_readLaw_35 (fun z_14 hz_14 => ?_)
    refine lv_istore_n (lv' := [(1, .int (iZ z_14)), (0, .ref hq)]) hx hb dX6_readLaw_38 rfl hl (by decide) rfl (fun ls hl => ?_)
    refine lv_iload_n hx hb dX6_readLaw_39 rfl (lv_at hl 0 rfl) ?_
    refine lv_iconst (v := iZ (-1)) hx hb dX6_readLaw_40 (by decide) ?_
    refine lv_icmp_ne (tgt := 53) hx hb dX6_readLaw_41 (by decide) (fun c_15 => ?_) (fun c_15 => ?_)
    ·
      have c_15 := mt (zeq (x := iZ z_14) (y := iZ (-1)) rfl rfl ⟨by omega, by omega⟩ ⟨by omega, by omega⟩).mpr c_15
      refine lv_aload_n hx hb dX6_readLaw_53 rfl (lv_at hl 1 rfl) ?_
      refine va_get (D := D) (ci := 6) (v := .ref hs) (C := RX6) (T := TX6) (N := 3) hx hb hts iX6 hown hK hP 0 rfl rfl 1 (by decide) (hts _ qf_X6_15) (fun _ h => h) rfl dX6_readLaw_54 ?_
      refine lv_iload_n hx hb dX6_readLaw_57 rfl (lv_at hl 0 rfl) ?_
      refine va_put (D := D) (ci := 5) (v := .int (iZ z_14)) (ty := .int) (C := RX5) (T := TX5) (N := 7) hx hb hts iX5 tyX5 tyX5_ok nmX5 hown hK hP hD hS 1 rfl rfl 5 (by decide) (hts _ qf_X6_110) (fun _ h => h) rfl (by decide +kernel) rfl rfl (Nat.le_of_ble_eq_true rfl) dX6_readLaw_58 (fun H locs hP hD hS => ?_)
      refine lv_aload_n hx hb dX6_readLaw_61 rfl (lv_at hl 1 rfl) ?_
      refine va_get (D := D) (ci := 6) (v := .ref hr1) (C := RX6) (T := TX6) (N := 3) hx hb hts iX6 hown hK hP 0 rfl rfl 0 (by decide) (hts _ qf_X6_9) (fun _ h => h) rfl dX6_readLaw_62 ?_
      refine CWV (As := []) (rest := []) (wc := [(hr1, .inr (4, [.ref tx, .ref kw, .int (iZ tp), .int (iZ ln), .int (iZ (I_4 1)), .int (iZ (I_4 2)), .int (iZ (I_4 3)), .int (iZ (I_4 4)), .int (iZ (I_4 5)), .long (L_5 1), .int (iZ fk), .int (iZ fp)])), (tx, .inl (k 0, 900, .inl bf)), (kw, .inl (k 2, 25, .inr (.inl kwf)))]) (wr := [(hq, .inr (6, [.ref hr1, .ref hs, .int (iZ 1)])), (hs, .inr (5, [.ref hN, .ref hf, .ref hg, .int (iZ n), .int (iZ ni), .int (iZ z_14), .int (iZ we)])), (hN, .inl (k 2, 6, .inr (.inl nf))), (hf, .inl (k 1, 36, .inl f)), (hg, .inl (k 1, 32, .inl g))]) hx hb hml hown hts hKK hP hD hS hA (x_next l D k hr1 tx kw tp ln (I_4 1) (I_4 2) (I_4 3) (I_4 4) (I_4 5) fk fp (L_5 1) bf kwf ⟨⟨by omega, by omega⟩, ⟨by omega, by omega⟩, by omega, by omega⟩ hbf hkw) ci_X4_next qm_X6_54 ⟨Nat.le_of_ble_eq_true rfl, Nat.le_of_ble_eq_true rfl⟩ ⟨Nat.le_of_ble_eq_true rfl, Nat.le_of_ble_eq_true rfl⟩ [5, 6, 7] [0, 1, 2, 3, 4] rfl rfl rfl rfl rfl (by decide) 0 rfl rfl rfl hl.1 rfl (Nat.le_of_ble_eq_true rfl) dX6_readLaw_65 (fun u_16 H locs hφ hP hD hS => ?_)
      obtain ⟨I_17, L_18, F_19, G_20⟩ := u_16
      obtain ⟨p_22, p_23⟩ : (RDX (tX bf ln) (I_4 2) (I_17 1) (I_17 2) (I_17 3) (I_17 4) (I_17 5) (L_18 1)) ∧ ((0 ≤ tp ∧ tp ≤ 900) ∧ (0 ≤ ln ∧ ln ≤ 900) ∧ (0 ≤ (I_17 1) ∧ (I_17 1) ≤ (I_17 2)) ∧ ((I_17 2) ≤ ln) ∧ (0 ≤ (I_17 3) ∧ (I_17 3) ≤ 4) ∧ (-2147483648 ≤ (I_17 4) ∧ (I_17 4) < 2147483648) ∧ (-1 ≤ (I_17 5) ∧ (I_17 5) ≤ 24)) := hφ
      have rx_24 := RDX.nx rx_11 p_22
      obtain ⟨⟨ar_25, br_25⟩, cr_25, dr_25, er_25, fr_25, gr_25, hr_25⟩ := id rx_24
      obtain ⟨t1u_26, t2u_26, t3u_26, t4u_26, t5u_26, t6u_26, t7u_26⟩ := id p_23
      refine W.eq (g2 := F0 m 68 ls []) rfl ?_
      refine lv_aload_n hx hb dX6_readLaw_68 rfl (lv_at hl 1 rfl) ?_
      refine va_get (D := D) (ci := 6) (v := .ref hr1) (C := RX6) (T := TX6) (N := 3) hx hb hts iX6 hown hK hP 0 rfl rfl 0 (by decide) (hts _ qf_X6_9) (fun _ h => h) rfl dX6_readLaw_69 ?_
      refine lv_bipush (v := iZ 59) hx hb dX6_readLaw_72 (by decide) ?_
      refine CWV (As := [.int (iZ 59)]) (rest := []) (wc := [(hr1, .inr (4, [.ref tx, .ref kw, .int (iZ tp), .int (iZ ln), .int (iZ (I_17 1)), .int (iZ (I_17 2)), .int (iZ (I_17 3)), .int (iZ (I_17 4)), .int (iZ (I_17 5)), .long (L_18 1), .int (iZ fk), .int (iZ fp)])), (tx, .inl (k 0, 900, .inl bf)), (kw, .inl (k 2, 25, .inr (.inl kwf)))]) (wr := [(hq, .inr (6, [.ref hr1, .ref hs, .int (iZ 1)])), (hs, .inr (5, [.ref hN, .ref hf, .ref hg, .int (iZ n), .int (iZ ni), .int (iZ z_14), .int (iZ we)])), (hN, .inl (k 2, 6, .inr (.inl nf))), (hf, .inl (k 1, 36, .inl f)), (hg, .inl (k 1, 32, .inl g))]) hx hb hml hown hts hKK hP hD hS hA (x_takeSign l D k hr1 tx kw tp ln (I_17 1) (I_17 2) (I_17 3) (I_17 4) (I_17 5) fk fp (L_18 1) bf kwf (xEn (tX bf ln) (xEn (tX bf ln) cu)) 59 ⟨⟨by omega, by omega⟩, ⟨by omega, by omega⟩, ⟨by omega, by omega⟩, by omega, ⟨by omega, by omega⟩, ⟨by omega, by omega⟩, by omega, by omega⟩ hbf hkw rx_24 ⟨by omega, by omega⟩) ci_X4_takeSign qm_X6_67 ⟨Nat.le_of_ble_eq_true rfl, Nat.le_of_ble_eq_true rfl⟩ ⟨Nat.le_of_ble_eq_true rfl, Nat.le_of_ble_eq_true rfl⟩ [5, 6, 7] [0, 1, 2, 3, 4] rfl rfl rfl rfl rfl (by decide) 0 rfl rfl rfl hl.1 rfl (Nat.le_of_ble_eq_true rfl) dX6_readLaw_74 (fun u_27 H locs hφ hP hD hS => ?_)
      obtain ⟨I_28, L_29, F_30, G_31⟩ := u_27
      obtain ⟨p_33, p_34⟩ : ((0 ≤ tp ∧ tp ≤ 900) ∧ (0 ≤ ln ∧ ln ≤ 900) ∧ (0 ≤ (I_28 1) ∧ (I_28 1) ≤ (I_28 2)) ∧ ((I_28 2) ≤ ln) ∧ (0 ≤ (I_28 3) ∧ (I_28 3) ≤ 4) ∧ (-2147483648 ≤ (I_28 4) ∧ (I_28 4) < 2147483648) ∧ (-1 ≤ (I_28 5) ∧ (I_28 5) ≤ 24)) ∧ ((((I_28 0) : Int) = 1 ∧ ∃ q9 : Int, xTs (tX bf ln) 59 (xEn (tX bf ln) (xEn (tX bf ln) cu)) = .inr q9 ∧ (xEn (tX bf ln) (xEn (tX bf ln) cu)) < q9 ∧ RDX (tX bf ln) q9 (I_28 1) (I_28 2) (I_28 3) (I_28 4) (I_28 5) (L_29 1) ∧ (I_28 6) = fk ∧ (I_28 7) = fp) ∨ (((I_28 0) : Int) = 0 ∧ xTs (tX bf ln) 59 (xEn (tX bf ln) (xEn (tX bf ln) cu)) = .inl ((I_28 6), (I_28 7)))) := hφ
      refine W.eq (g2 := F0 m 77 ls [.int (iZ (I_28 0))]) rfl ?_
      rcases p_34 with ⟨qt_35, cut_35, st_35, lt_35, xt_35, ut_35, vt_35⟩ | ⟨qt_35, st_35⟩
      ·
        rw [qt_35]
        obtain ⟨⟨ar_36, br_36⟩, cr_36, dr_36, er_36, fr_36, gr_36, hr_36⟩ := id xt_35
        have hlo : z_14 = xLo (xKw (tX bf ln) (xEn (tX bf ln) cu)) := hz_14.1.trans (congrArg xLo (by omega))
        exact EWz hx hb hr hlocks hS (fun i => [1, (I_28 1), (I_28 2), (I_28 3), (I_28 4), (I_28 5), (I_28 6), (I_28 7), z_14, 1].getD i 0, fun i => [0, (L_29 1)].getD i 0, fun i => [].getD i (fun _ => 0), fun i => [].getD i (fun _ => 0)) rfl rfl ⟨(show (0 ≤ tp ∧ tp ≤ 900) ∧ (0 ≤ ln ∧ ln ≤ 900) ∧ (0 ≤ (I_28 1) ∧ (I_28 1) ≤ (I_28 2)) ∧ ((I_28 2) ≤ ln) ∧ (0 ≤ (I_28 3) ∧ (I_28 3) ≤ 4) ∧ (-2147483648 ≤ (I_28 4) ∧ (I_28 4) < 2147483648) ∧ (-1 ≤ (I_28 5) ∧ (I_28 5) ≤ 24) from ⟨⟨by omega, by omega⟩, ⟨by omega, by omega⟩, ⟨by omega, by omega⟩, by omega, ⟨by omega, by omega⟩, ⟨by omega, by omega⟩, by omega, by omega⟩), (show ((1 : Int) = 0 ∨ (1 : Int) = 1) ∧ 0 ≤ (z_14 : Int) ∧ (z_14 : Int) ≤ 3 from (by omega)), (show ((1 : Int) = 1 ∧ ∃ q9 : Int, xLaw (tX bf ln) lt cu = .inr (q9, z_14) ∧ cu < q9 ∧ RDX (tX bf ln) q9 (I_28 1) (I_28 2) (I_28 3) (I_28 4) (I_28 5) (L_29 1) ∧ (1 : Int) = 1 ∧ (I_28 6) = fk ∧ (I_28 7) = fp) ∨ ((1 : Int) = 0 ∧ xLaw (tX bf ln) lt cu = .inl ((I_28 6), (I_28 7))) from (Or.inl ⟨rfl, cut_35, (xLaw_2 (show ¬ lt = 1 from (by omega)) hlo.symm (by omega)).trans (xBn_r st_35), by omega, xt_35, rfl, by omega, by omega⟩))⟩ (hP.sub [0, 5, 6, 7, 1, 2, 3, 4] rfl) (hD.sub [0, 5, 6, 7, 1, 2, 3, 4] rfl rfl) dX6_readLaw_77
      ·
        rw [qt_35]
        have hlo : z_14 = xLo (xKw (tX bf ln) (xEn (tX bf ln) cu)) := hz_14.1.trans (congrArg xLo (by omega))
        exact EWz hx hb hr hlocks hS (fun i => [0, (I_28 1), (I_28 2), (I_28 3), (I_28 4), (I_28 5), (I_28 6), (I_28 7), z_14, 1].getD i 0, fun i => [0, (L_29 1)].getD i 0, fun i => [].getD i (fun _ => 0), fun i => [].getD i (fun _ => 0)) rfl rfl ⟨(show (0 ≤ tp ∧ tp ≤ 900) ∧ (0 ≤ ln ∧ ln ≤ 900) ∧ (0 ≤ (I_28 1) ∧ (I_28 1) ≤ (I_28 2)) ∧ ((I_28 2) ≤ ln) ∧ (0 ≤ (I_28 3) ∧ (I_28 3) ≤ 4) ∧ (-2147483648 ≤ (I_28 4) ∧ (I_28 4) < 2147483648) ∧ (-1 ≤ (I_28 5) ∧ (I_28 5) ≤ 24) from ⟨⟨by omega, by omega⟩, ⟨by omega, by omega⟩, ⟨by omega, by omega⟩, by omega, ⟨by omega, by omega⟩, ⟨by omega, by omega⟩, by omega, by omega⟩), (show ((1 : Int) = 0 ∨ (1 : Int) = 1) ∧ 0 ≤ (z_14 : Int) ∧ (z_14 : Int) ≤ 3 from (by omega)), (show ((0 : Int) = 1 ∧ ∃ q9 : Int, xLaw (tX bf ln) lt cu = .inr (q9, z_14) ∧ cu < q9 ∧ RDX (tX bf ln) q9 (I_28 1) (I_28 2) (I_28 3) (I_28 4) (I_28 5) (L_29 1) ∧ (1 : Int) = 1 ∧ (I_28 6) = fk ∧ (I_28 7) = fp) ∨ ((0 : Int) = 0 ∧ xLaw (tX bf ln) lt cu = .inl ((I_28 6), (I_28 7))) from (Or.inr ⟨rfl, (xLaw_2 (show ¬ lt = 1 from (by omega)) hlo.symm (by omega)).trans (xBn_l st_35)⟩))⟩ (hP.sub [0, 5, 6, 7, 1, 2, 3, 4] rfl) (hD.sub [0, 5, 6, 7, 1, 2, 3, 4] rfl rfl) dX6_readLaw_77
    ·
      have c_15 := (zeq (x := iZ z_14) (y := iZ (-1)) rfl rfl ⟨by omega, by omega⟩ ⟨by omega, by omega⟩).mp c_15
      refine lv_aload_n hx hb dX6_readLaw_44 rfl (lv_at hl 1 rfl) ?_
      refine va_get (D := D) (ci := 6) (v := .ref hr1) (C := RX6) (T := TX6) (N := 3) hx hb hts iX6 hown hK hP 0 rfl rfl 0 (by decide) (hts _ qf_X6_9) (fun _ h => h) rfl dX6_readLaw_45 ?_
      refine lv_iconst (v := iZ 2) hx hb dX6_readLaw_48 (by decide) ?_
      refine CWV (As := [.int (iZ 2)]) (rest := []) (wc := [(hr1, .inr (4, [.ref tx, .ref kw, .int (iZ tp), .int (iZ ln), .int (iZ (I_4 1)), .int (iZ (I_4 2)), .int (iZ (I_4 3)), .int (iZ (I_4 4)), .int (iZ (I_4 5)), .long (L_5 1), .int (iZ fk), .int (iZ fp)])), (tx, .inl (k 0, 900, .inl bf)), (kw, .inl (k 2, 25, .inr (.inl kwf)))]) (wr := [(hq, .inr (6, [.ref hr1, .ref hs, .int (iZ 1)])), (hs, .inr (5, [.ref hN, .ref hf, .ref hg, .int (iZ n), .int (iZ ni), .int (iZ lw), .int (iZ we)])), (hN, .inl (k 2, 6, .inr (.inl nf))), (hf, .inl (k 1, 36, .inl f)), (hg, .inl (k 1, 32, .inl g))]) hx hb hml hown hts hKK hP hD hS hA (x_fail l D k hr1 tx kw tp ln (I_4 1) (I_4 2) (I_4 3) (I_4 4) (I_4 5) fk fp (L_5 1) bf kwf (xEn (tX bf ln) cu) 2 ⟨⟨by omega, by omega⟩, ⟨by omega, by omega⟩, ⟨by omega, by omega⟩, by omega, ⟨by omega, by omega⟩, ⟨by omega, by omega⟩, by omega, by omega⟩ rx_11) ci_X4_fail qm_X6_47 ⟨Nat.le_of_ble_eq_true rfl, Nat.le_of_ble_eq_true rfl⟩ ⟨Nat.le_of_ble_eq_true rfl, Nat.le_of_ble_eq_true rfl⟩ [5, 6, 7] [0, 1, 2, 3, 4] rfl rfl rfl rfl rfl (by decide) 0 rfl rfl rfl hl.1 rfl (Nat.le_of_ble_eq_true rfl) dX6_readLaw_49 (fun u_37 H locs hφ hP hD hS => ?_)
      obtain ⟨I_38, L_39, F_40, G_41⟩ := u_37
      have p_43 : (I_38 1) = xFl (tX bf ln) (xEn (tX bf ln) cu) 2 ∧ (I_38 2) = xPl (tX bf ln) (xEn (tX bf ln) cu) := hφ
      refine W.eq (g2 := F0 m 52 ls [.int (iZ 0)]) rfl ?_
      have hlo : z_14 = xLo (xKw (tX bf ln) (xEn (tX bf ln) cu)) := hz_14.1.trans (congrArg xLo (by omega))
      exact EWz hx hb hr hlocks hS (fun i => [0, (I_4 1), (I_4 2), (I_4 3), (I_4 4), (I_4 5), (I_38 1), (I_38 2), lw, 1].getD i 0, fun i => [0, (L_5 1)].getD i 0, fun i => [].getD i (fun _ => 0), fun i => [].getD i (fun _ => 0)) rfl rfl ⟨(show (0 ≤ tp ∧ tp ≤ 900) ∧ (0 ≤ ln ∧ ln ≤ 900) ∧ (0 ≤ (I_4 1) ∧ (I_4 1) ≤ (I_4 2)) ∧ ((I_4 2) ≤ ln) ∧ (0 ≤ (I_4 3) ∧ (I_4 3) ≤ 4) ∧ (-2147483648 ≤ (I_4 4) ∧ (I_4 4) < 2147483648) ∧ (-1 ≤ (I_4 5) ∧ (I_4 5) ≤ 24) from ⟨⟨by omega, by omega⟩, ⟨by omega, by omega⟩, ⟨by omega, by omega⟩, by omega, ⟨by omega, by omega⟩, ⟨by omega, by omega⟩, by omega, by omega⟩), (show ((1 : Int) = 0 ∨ (1 : Int) = 1) ∧ 0 ≤ (lw : Int) ∧ (lw : Int) ≤ 3 from (by omega)), (show ((0 : Int) = 1 ∧ ∃ q9 : Int, xLaw (tX bf ln) lt cu = .inr (q9, lw) ∧ cu < q9 ∧ RDX (tX bf ln) q9 (I_4 1) (I_4 2) (I_4 3) (I_4 4) (I_4 5) (L_5 1) ∧ (1 : Int) = 1 ∧ (I_38 1) = fk ∧ (I_38 2) = fp) ∨ ((0 : Int) = 0 ∧ xLaw (tX bf ln) lt cu = .inl ((I_38 1), (I_38 2))) from (Or.inr ⟨rfl, by unfold xLaw xEr; rw [if_neg (show ¬ lt = 1 from (by omega)), if_pos (show xLo (xKw (tX bf ln) (xEn (tX bf ln) cu)) = -1 from (by omega)), p_43.1, p_43.2]⟩))⟩ (hP.sub [0, 5, 6, 7, 1, 2, 3, 4] rfl) (hD.sub [0, 5, 6, 7, 1, 2, 3, 4] rfl rfl) dX6_readLaw_52
  ·
    have c_2 := mt (zeq (x := iZ lt) (y := iZ 0) rfl rfl ⟨by omega, by omega⟩ ⟨by omega, by omega⟩).mpr c_2
    refine lv_aload_n hx hb dX6_readLaw_7 rfl (lv_at hl 0 rfl) ?_
    refine va_get (D := D) (ci := 6) (v := .ref hr1) (C := RX6) (T := TX6) (N := 3) hx hb hts iX6 hown hK hP 0 rfl rfl 0 (by decide) (hts _ qf_X6_9) (fun _ h => h) rfl dX6_readLaw_8 ?_
    refine lv_iconst (v := iZ 5) hx hb dX6_readLaw_11 (by decide) ?_
    refine CWV (As := [.int (iZ 5)]) (rest := []) (wc := [(hr1, .inr (4, [.ref tx, .ref kw, .int (iZ tp), .int (iZ ln), .int (iZ pl), .int (iZ en), .int (iZ ki), .int (iZ va), .int (iZ ke), .long nm, .int (iZ fk), .int (iZ fp)])), (tx, .inl (k 0, 900, .inl bf)), (kw, .inl (k 2, 25, .inr (.inl kwf)))]) (wr := [(hq, .inr (6, [.ref hr1, .ref hs, .int (iZ lt)])), (hs, .inr (5, [.ref hN, .ref hf, .ref hg, .int (iZ n), .int (iZ ni), .int (iZ lw), .int (iZ we)])), (hN, .inl (k 2, 6, .inr (.inl nf))), (hf, .inl (k 1, 36, .inl f)), (hg, .inl (k 1, 32, .inl g))]) hx hb hml hown hts hKK hP hD hS hA (x_fail l D k hr1 tx kw tp ln pl en ki va ke fk fp nm bf kwf cu 5 ⟨⟨by omega, by omega⟩, ⟨by omega, by omega⟩, ⟨by omega, by omega⟩, by omega, ⟨by omega, by omega⟩, ⟨by omega, by omega⟩, by omega, by omega⟩ hrx) ci_X4_fail qm_X6_47 ⟨Nat.le_of_ble_eq_true rfl, Nat.le_of_ble_eq_true rfl⟩ ⟨Nat.le_of_ble_eq_true rfl, Nat.le_of_ble_eq_true rfl⟩ [1, 2, 3] [0, 4, 5, 6, 7] rfl rfl rfl rfl rfl (by decide) 0 rfl rfl rfl hl.1 rfl (Nat.le_of_ble_eq_true rfl) dX6_readLaw_12 (fun u_44 H locs hφ hP hD hS => ?_)
    obtain ⟨I_45, L_46, F_47, G_48⟩ := u_44
    have p_50 : (I_45 1) = xFl (tX bf ln) cu 5 ∧ (I_45 2) = xPl (tX bf ln) cu := hφ
    refine W.eq (g2 := F0 m 15 ls [.int (iZ 0)]) rfl ?_
    exact EWz hx hb hr hlocks hS (fun i => [0, pl, en, ki, va, ke, (I_45 1), (I_45 2), lw, lt].getD i 0, fun i => [0, nm].getD i 0, fun i => [].getD i (fun _ => 0), fun i => [].getD i (fun _ => 0)) rfl rfl ⟨(show (0 ≤ tp ∧ tp ≤ 900) ∧ (0 ≤ ln ∧ ln ≤ 900) ∧ (0 ≤ pl ∧ pl ≤ en) ∧ (en ≤ ln) ∧ (0 ≤ ki ∧ ki ≤ 4) ∧ (-2147483648 ≤ va ∧ va < 2147483648) ∧ (-1 ≤ ke ∧ ke ≤ 24) from ⟨⟨by omega, by omega⟩, ⟨by omega, by omega⟩, ⟨by omega, by omega⟩, by omega, ⟨by omega, by omega⟩, ⟨by omega, by omega⟩, by omega, by omega⟩), (show ((lt : Int) = 0 ∨ (lt : Int) = 1) ∧ 0 ≤ (lw : Int) ∧ (lw : Int) ≤ 3 from (by omega)), (show ((0 : Int) = 1 ∧ ∃ q9 : Int, xLaw (tX bf ln) lt cu = .inr (q9, lw) ∧ cu < q9 ∧ RDX (tX bf ln) q9 pl en ki va ke nm ∧ (lt : Int) = 1 ∧ (I_45 1) = fk ∧ (I_45 2) = fp) ∨ ((0 : Int) = 0 ∧ xLaw (tX bf ln) lt cu = .inl ((I_45 1), (I_45 2))) from (Or.inr ⟨rfl, by unfold xLaw xEr; rw [if_pos (by omega), p_50.1, p_50.2]⟩))⟩ (hP.sub [0, 5, 6, 7, 1, 2, 3, 4] rfl) (hD.sub [0, 5, 6, 7, 1, 2, 3, 4] rfl rfl) dX6_readLaw_15
