section
set_option maxHeartbeats 4000000 in
set_option maxRecDepth 100000 in
theorem x_takeCompares (l : Launch) (D : va_G) (k : Nat → ClassId) (hr1 : Nat) (tx : Nat) (kw : Nat) (tp : Int) (ln : Int) (pl : Int) (en : Int) (ki : Int) (va : Int) (ke : Int) (fk : Int) (fp : Int) (nm : Int64) (bf : Nat → Int32) (kwf : Nat → Int64) (cu : Int) (hI1 : (0 ≤ tp ∧ tp ≤ 900) ∧ (0 ≤ ln ∧ ln ≤ 900) ∧ (0 ≤ pl ∧ pl ≤ en) ∧ (en ≤ ln) ∧ (0 ≤ ki ∧ ki ≤ 4) ∧ (-2147483648 ≤ va ∧ va < 2147483648) ∧ (-1 ≤ ke ∧ ke ≤ 24)) (hbf : rgI bf (-128) 127 900) (hkw : ∀ j : Nat, j < 25 → kwf j = lZ (kwC j)) (hrx : RDX (tX bf ln) cu pl en ki va ke nm) : WD (σ := ((Int × Int × Int × Int × Int × Int × Int × Int) × (Int64 × Int64) × (Unit) × (Unit))) l yX4_takeCompares cX4_takeCompares 2 (some .int) 2 0 0 D k [.ref hr1] [(hr1, .inr (4, [.ref tx, .ref kw, .int (iZ tp), .int (iZ ln), .int (iZ pl), .int (iZ en), .int (iZ ki), .int (iZ va), .int (iZ ke), .long nm, .int (iZ fk), .int (iZ fp)])), (tx, .inl (k 0, 900, .inl bf)), (kw, .inl (k 2, 25, .inr (.inl kwf)))] (fun u => some (.int (iZ u.1.1))) (fun u => ((0 ≤ tp ∧ tp ≤ 900) ∧ (0 ≤ ln ∧ ln ≤ 900) ∧ (0 ≤ u.1.2.1 ∧ u.1.2.1 ≤ u.1.2.2.1) ∧ (u.1.2.2.1 ≤ ln) ∧ (0 ≤ u.1.2.2.2.1 ∧ u.1.2.2.2.1 ≤ 4) ∧ (-2147483648 ≤ u.1.2.2.2.2.1 ∧ u.1.2.2.2.2.1 < 2147483648) ∧ (-1 ≤ u.1.2.2.2.2.2.1 ∧ u.1.2.2.2.2.2.1 ≤ 24)) ∧ ((¬ (u.1.1 : Int) = -1 ∧ ∃ q9 : Int, xTc (tX bf ln) cu = .inr (q9, u.1.1) ∧ cu < q9 ∧ RDX (tX bf ln) q9 u.1.2.1 u.1.2.2.1 u.1.2.2.2.1 u.1.2.2.2.2.1 u.1.2.2.2.2.2.1 u.2.1.2 ∧ (60 ≤ u.1.1 ∧ u.1.1 ≤ 62) ∧ u.1.2.2.2.2.2.2.1 = fk ∧ u.1.2.2.2.2.2.2.2 = fp) ∨ ((u.1.1 : Int) = -1 ∧ xTc (tX bf ln) cu = .inl (u.1.2.2.2.2.2.2.1, u.1.2.2.2.2.2.2.2)))) (fun u => [(hr1, .inr (4, [.ref tx, .ref kw, .int (iZ tp), .int (iZ ln), .int (iZ u.1.2.1), .int (iZ u.1.2.2.1), .int (iZ u.1.2.2.2.1), .int (iZ u.1.2.2.2.2.1), .int (iZ u.1.2.2.2.2.2.1), .long u.2.1.2, .int (iZ u.1.2.2.2.2.2.2.1), .int (iZ u.1.2.2.2.2.2.2.2)])), (tx, .inl (k 0, 900, .inl bf)), (kw, .inl (k 2, 25, .inr (.inl kwf)))]) := by
  refine MW (by decide) (Nat.le_of_ble_eq_true rfl) (fun p e s m below meth c ls A hx hb hml hr hlocks hin hts hown hKK hP hD hS hA hl => ?_)
  have hK := hKK.1
  have hl : lv_has ls 2 [(0, .ref hr1)] := hl
  obtain ⟨⟨ar_1, br_1⟩, cr_1, dr_1, er_1, fr_1, gr_1, hr_1⟩ := id hrx
  refine lv_aload_n hx hb dX4_takeCompares_0 rfl (lv_at hl 0 rfl) ?_
  refine va_get (D := D) (ci := 4) (v := .int (iZ va)) (C := RX4) (T := TX4) (N := 12) hx hb hts iX4 hown hK hP 0 rfl rfl 7 (bl rfl) (hts _ qf_X4_65) (fun _ h => h) rfl dX4_takeCompares_1 ?_
  refine lv_istore_n (lv' := [(1, .int (iZ va)), (0, .ref hr1)]) hx hb dX4_takeCompares_4 rfl hl (bl rfl) rfl (fun ls hl => ?_)
  refine lv_aload_n hx hb dX4_takeCompares_5 rfl (lv_at hl 1 rfl) ?_
  refine va_get (D := D) (ci := 4) (v := .int (iZ ki)) (C := RX4) (T := TX4) (N := 12) hx hb hts iX4 hown hK hP 0 rfl rfl 6 (bl rfl) (hts _ qf_X4_68) (fun _ h => h) rfl dX4_takeCompares_6 ?_
  refine lv_iconst (v := iZ 3) hx hb dX4_takeCompares_9 rfl ?_
  refine lv_icmp_ne (tgt := 19) hx hb dX4_takeCompares_10 rfl (fun c_2 => ?_) (fun c_2 => ?_)
  ·
    have c_2 := mt (zeq (x := iZ ki) (y := iZ 3) rfl rfl ⟨by omega, by omega⟩ wn_3).mpr c_2
    refine lv_aload_n hx hb dX4_takeCompares_19 rfl (lv_at hl 1 rfl) ?_
    refine lv_iconst (v := iZ 2) hx hb dX4_takeCompares_20 rfl ?_
    refine CWV (As := [.int (iZ 2)]) (rest := []) (wc := _) (wr := []) hx hb hml hown hts hKK hP hD hS hA (x_fail l D k hr1 tx kw tp ln pl en ki va ke fk fp nm bf kwf cu 2 (by first | with_reducible assumption | exact ⟨⟨by omega, by omega⟩, ⟨by omega, by omega⟩, ⟨by omega, by omega⟩, by omega, ⟨by omega, by omega⟩, ⟨by omega, by omega⟩, by omega, by omega⟩) hrx) ci_X4_fail qm_X4_80 ⟨Nat.le_of_ble_eq_true rfl, Nat.le_of_ble_eq_true rfl⟩ ⟨Nat.le_of_ble_eq_true rfl, Nat.le_of_ble_eq_true rfl⟩ [0, 1, 2] [] rfl rfl rfl rfl rfl (dj rfl) 0 rfl rfl rfl hl.1 rfl (Nat.le_of_ble_eq_true rfl) dX4_takeCompares_21 (fun u_3 H locs hφ hP hD hS => ?_)
    have p_4 : u_3.1.2.1 = xFl (tX bf ln) cu 2 ∧ u_3.1.2.2 = xPl (tX bf ln) cu := hφ
    refine W.eq (g2 := F0 m 24 ls [.int (iZ 0)]) rfl ?_
    refine lv_pop hx hb dX4_takeCompares_24 rfl ?_
    refine lv_iconst (v := iZ (-1)) hx hb dX4_takeCompares_25 rfl ?_
    exact EWi hx hb hr hlocks hS (((-1), pl, en, ki, va, ke, u_3.1.2.1, u_3.1.2.2), (0, nm), (), ()) rfl ⟨(show (0 ≤ tp ∧ tp ≤ 900) ∧ (0 ≤ ln ∧ ln ≤ 900) ∧ (0 ≤ pl ∧ pl ≤ en) ∧ (en ≤ ln) ∧ (0 ≤ ki ∧ ki ≤ 4) ∧ (-2147483648 ≤ va ∧ va < 2147483648) ∧ (-1 ≤ ke ∧ ke ≤ 24) from (by first | with_reducible assumption | exact ⟨⟨by omega, by omega⟩, ⟨by omega, by omega⟩, ⟨by omega, by omega⟩, by omega, ⟨by omega, by omega⟩, ⟨by omega, by omega⟩, by omega, by omega⟩)), (show (¬ ((-1) : Int) = -1 ∧ ∃ q9 : Int, xTc (tX bf ln) cu = .inr (q9, (-1)) ∧ cu < q9 ∧ RDX (tX bf ln) q9 pl en ki va ke nm ∧ (60 ≤ (-1) ∧ (-1) ≤ 62) ∧ u_3.1.2.1 = fk ∧ u_3.1.2.2 = fp) ∨ (((-1) : Int) = -1 ∧ xTc (tX bf ln) cu = .inl (u_3.1.2.1, u_3.1.2.2)) from (Or.inr ⟨rfl, by unfold xTc xEr; rw [if_neg (by omega), p_4.1, p_4.2]⟩))⟩ (hP.sub [0, 1, 2] rfl) (hD.sub [0, 1, 2] rfl rfl) dX4_takeCompares_26
  ·
    have c_2 := (zeq (x := iZ ki) (y := iZ 3) rfl rfl ⟨by omega, by omega⟩ wn_3).mp c_2
    refine lv_iload_n hx hb dX4_takeCompares_13 rfl (lv_at hl 0 rfl) ?_
    refine lv_bipush (v := iZ 59) hx hb dX4_takeCompares_14 bip_59 ?_
    refine lv_icmp_ne (tgt := 27) hx hb dX4_takeCompares_16 rfl (fun c_5 => ?_) (fun c_5 => ?_)
    ·
      have c_5 := mt (zeq (x := iZ va) (y := iZ 59) rfl rfl ⟨by omega, by omega⟩ wn_59).mpr c_5
      refine lv_aload_n hx hb dX4_takeCompares_27 rfl (lv_at hl 1 rfl) ?_
      refine CWV (As := []) (rest := []) (wc := _) (wr := []) hx hb hml hown hts hKK hP hD hS hA (x_next l D k hr1 tx kw tp ln pl en ki va ke fk fp nm bf kwf ⟨⟨by omega, by omega⟩, ⟨by omega, by omega⟩, by omega, by omega⟩ hbf hkw) ci_X4_next qm_X4_50 ⟨Nat.le_of_ble_eq_true rfl, Nat.le_of_ble_eq_true rfl⟩ ⟨Nat.le_of_ble_eq_true rfl, Nat.le_of_ble_eq_true rfl⟩ [0, 1, 2] [] rfl rfl rfl rfl rfl (dj rfl) 0 rfl rfl rfl hl.1 rfl (Nat.le_of_ble_eq_true rfl) dX4_takeCompares_28 (fun u_6 H locs hφ hP hD hS => ?_)
      obtain ⟨p_7, p_8⟩ : (RDX (tX bf ln) en u_6.1.2.1 u_6.1.2.2.1 u_6.1.2.2.2.1 u_6.1.2.2.2.2.1 u_6.1.2.2.2.2.2 u_6.2.1.2) ∧ ((0 ≤ tp ∧ tp ≤ 900) ∧ (0 ≤ ln ∧ ln ≤ 900) ∧ (0 ≤ u_6.1.2.1 ∧ u_6.1.2.1 ≤ u_6.1.2.2.1) ∧ (u_6.1.2.2.1 ≤ ln) ∧ (0 ≤ u_6.1.2.2.2.1 ∧ u_6.1.2.2.2.1 ≤ 4) ∧ (-2147483648 ≤ u_6.1.2.2.2.2.1 ∧ u_6.1.2.2.2.2.1 < 2147483648) ∧ (-1 ≤ u_6.1.2.2.2.2.2 ∧ u_6.1.2.2.2.2.2 ≤ 24)) := hφ
      have rx_9 := RDX.nx hrx p_7
      obtain ⟨⟨ar_10, br_10⟩, cr_10, dr_10, er_10, fr_10, gr_10, hr_10⟩ := id rx_9
      obtain ⟨t1u_11, t2u_11, t3u_11, t4u_11, t5u_11, t6u_11, t7u_11⟩ := id p_8
      refine W.eq (g2 := F0 m 31 ls []) rfl ?_
      refine lv_iload_n hx hb dX4_takeCompares_31 rfl (lv_at hl 0 rfl) ?_
      have htc : xTc (tX bf ln) cu = .inr (xEn (tX bf ln) cu, va) := by unfold xTc; rw [if_pos ⟨by omega, by omega⟩, show xVl (tX bf ln) cu = va from (by omega)]
      have htr := xTc_i htc
      exact EWi hx hb hr hlocks hS ((va, u_6.1.2.1, u_6.1.2.2.1, u_6.1.2.2.2.1, u_6.1.2.2.2.2.1, u_6.1.2.2.2.2.2, fk, fp), (0, u_6.2.1.2), (), ()) rfl ⟨(show (0 ≤ tp ∧ tp ≤ 900) ∧ (0 ≤ ln ∧ ln ≤ 900) ∧ (0 ≤ u_6.1.2.1 ∧ u_6.1.2.1 ≤ u_6.1.2.2.1) ∧ (u_6.1.2.2.1 ≤ ln) ∧ (0 ≤ u_6.1.2.2.2.1 ∧ u_6.1.2.2.2.1 ≤ 4) ∧ (-2147483648 ≤ u_6.1.2.2.2.2.1 ∧ u_6.1.2.2.2.2.1 < 2147483648) ∧ (-1 ≤ u_6.1.2.2.2.2.2 ∧ u_6.1.2.2.2.2.2 ≤ 24) from (by first | with_reducible assumption | exact ⟨⟨by omega, by omega⟩, ⟨by omega, by omega⟩, ⟨by omega, by omega⟩, by omega, ⟨by omega, by omega⟩, ⟨by omega, by omega⟩, by omega, by omega⟩)), (show (¬ (va : Int) = -1 ∧ ∃ q9 : Int, xTc (tX bf ln) cu = .inr (q9, va) ∧ cu < q9 ∧ RDX (tX bf ln) q9 u_6.1.2.1 u_6.1.2.2.1 u_6.1.2.2.2.1 u_6.1.2.2.2.2.1 u_6.1.2.2.2.2.2 u_6.2.1.2 ∧ (60 ≤ va ∧ va ≤ 62) ∧ fk = fk ∧ fp = fp) ∨ ((va : Int) = -1 ∧ xTc (tX bf ln) cu = .inl (fk, fp)) from (Or.inl ⟨by omega, xEn (tX bf ln) cu, htc, by omega, rx_9, ⟨by omega, by omega⟩, rfl, rfl⟩))⟩ (hP.sub [0, 1, 2] rfl) (hD.sub [0, 1, 2] rfl rfl) dX4_takeCompares_32
    ·
      have c_5 := (zeq (x := iZ va) (y := iZ 59) rfl rfl ⟨by omega, by omega⟩ wn_59).mp c_5
      refine lv_aload_n hx hb dX4_takeCompares_19 rfl (lv_at hl 1 rfl) ?_
      refine lv_iconst (v := iZ 2) hx hb dX4_takeCompares_20 rfl ?_
      refine CWV (As := [.int (iZ 2)]) (rest := []) (wc := _) (wr := []) hx hb hml hown hts hKK hP hD hS hA (x_fail l D k hr1 tx kw tp ln pl en ki va ke fk fp nm bf kwf cu 2 (by first | with_reducible assumption | exact ⟨⟨by omega, by omega⟩, ⟨by omega, by omega⟩, ⟨by omega, by omega⟩, by omega, ⟨by omega, by omega⟩, ⟨by omega, by omega⟩, by omega, by omega⟩) hrx) ci_X4_fail qm_X4_80 ⟨Nat.le_of_ble_eq_true rfl, Nat.le_of_ble_eq_true rfl⟩ ⟨Nat.le_of_ble_eq_true rfl, Nat.le_of_ble_eq_true rfl⟩ [0, 1, 2] [] rfl rfl rfl rfl rfl (dj rfl) 0 rfl rfl rfl hl.1 rfl (Nat.le_of_ble_eq_true rfl) dX4_takeCompares_21 (fun u_12 H locs hφ hP hD hS => ?_)
      have p_13 : u_12.1.2.1 = xFl (tX bf ln) cu 2 ∧ u_12.1.2.2 = xPl (tX bf ln) cu := hφ
      refine W.eq (g2 := F0 m 24 ls [.int (iZ 0)]) rfl ?_
      refine lv_pop hx hb dX4_takeCompares_24 rfl ?_
      refine lv_iconst (v := iZ (-1)) hx hb dX4_takeCompares_25 rfl ?_
      exact EWi hx hb hr hlocks hS (((-1), pl, en, ki, va, ke, u_12.1.2.1, u_12.1.2.2), (0, nm), (), ()) rfl ⟨(show (0 ≤ tp ∧ tp ≤ 900) ∧ (0 ≤ ln ∧ ln ≤ 900) ∧ (0 ≤ pl ∧ pl ≤ en) ∧ (en ≤ ln) ∧ (0 ≤ ki ∧ ki ≤ 4) ∧ (-2147483648 ≤ va ∧ va < 2147483648) ∧ (-1 ≤ ke ∧ ke ≤ 24) from (by first | with_reducible assumption | exact ⟨⟨by omega, by omega⟩, ⟨by omega, by omega⟩, ⟨by omega, by omega⟩, by omega, ⟨by omega, by omega⟩, ⟨by omega, by omega⟩, by omega, by omega⟩)), (show (¬ ((-1) : Int) = -1 ∧ ∃ q9 : Int, xTc (tX bf ln) cu = .inr (q9, (-1)) ∧ cu < q9 ∧ RDX (tX bf ln) q9 pl en ki va ke nm ∧ (60 ≤ (-1) ∧ (-1) ≤ 62) ∧ u_12.1.2.1 = fk ∧ u_12.1.2.2 = fp) ∨ (((-1) : Int) = -1 ∧ xTc (tX bf ln) cu = .inl (u_12.1.2.1, u_12.1.2.2)) from (Or.inr ⟨rfl, by unfold xTc xEr; rw [if_neg (by omega), p_13.1, p_13.2]⟩))⟩ (hP.sub [0, 1, 2] rfl) (hD.sub [0, 1, 2] rfl rfl) dX4_takeCompares_26
set_option maxHeartbeats 4000000 in
set_option maxRecDepth 100000 in
theorem x_readTest (l : Launch) (D : va_G) (k : Nat → ClassId) (hv : Nat) (oo : Nat) (hr1 : Nat) (tx : Nat) (kw : Nat) (hs : Nat) (hN : Nat) (hf : Nat) (hg : Nat) (de : Int) (of0 : Nat → Int32) (tp : Int) (ln : Int) (pl : Int) (en : Int) (ki : Int) (va : Int) (ke : Int) (fk : Int) (fp : Int) (nm : Int64) (bf : Nat → Int32) (kwf : Nat → Int64) (hy : Nat) (yw : Nat) (y1 : Nat) (y2 : Nat) (y3 : Nat) (yp : Nat) (th : Int) (ys : Int) (yr : Int) (ywf : Nat → Int32) (y1f : Nat → Int32) (y2f : Nat → Int32) (y3f : Nat → Int32) (ypf : Nat → Int32) (n : Int) (ni : Int) (lw : Int) (we : Int) (nf : Nat → Int64) (cu : Int) (a6 : Int) (N : Int → Int) (hI1 : (0 ≤ tp ∧ tp ≤ 900) ∧ (0 ≤ ln ∧ ln ≤ 900) ∧ (0 ≤ pl ∧ pl ≤ en) ∧ (en ≤ ln) ∧ (0 ≤ ki ∧ ki ≤ 4) ∧ (-2147483648 ≤ va ∧ va < 2147483648) ∧ (-1 ≤ ke ∧ ke ≤ 24)) (hbf : rgI bf (-128) 127 900) (hkw : ∀ j : Nat, j < 25 → kwf j = lZ (kwC j)) (hrx : RDX (tX bf ln) cu pl en ki va ke nm) (hn : 0 ≤ n ∧ n ≤ 6) (hyr : 0 ≤ a6 ∧ a6 < 60) (hns : xNs nf N n) : WD (σ := ((Int × Int × Int × Int × Int × Int × Int × Int) × (Int64 × Int64) × ((Nat → Int32) × (Nat → Int32) × (Nat → Int32)) × (Unit))) l yX10_readTest cX10_readTest 5 (some .boolean) 3 0 0 D k [.ref hv, .int (iZ a6)] [(hv, .inr (10, [.ref hr1, .ref oo, .int (iZ de), .ref hy, .ref hs])), (oo, .inl (k 1, 3, .inl of0)), (hr1, .inr (4, [.ref tx, .ref kw, .int (iZ tp), .int (iZ ln), .int (iZ pl), .int (iZ en), .int (iZ ki), .int (iZ va), .int (iZ ke), .long nm, .int (iZ fk), .int (iZ fp)])), (tx, .inl (k 0, 900, .inl bf)), (kw, .inl (k 2, 25, .inr (.inl kwf))), (hy, .inr (9, [.ref yw, .ref y1, .ref y2, .ref y3, .ref yp, .int (iZ th), .int (iZ ys), .int (iZ yr)])), (yw, .inl (k 1, 60, .inl ywf)), (y1, .inl (k 1, 60, .inl y1f)), (y2, .inl (k 1, 60, .inl y2f)), (y3, .inl (k 1, 60, .inl y3f)), (yp, .inl (k 1, 60, .inl ypf)), (hs, .inr (5, [.ref hN, .ref hf, .ref hg, .int (iZ n), .int (iZ ni), .int (iZ lw), .int (iZ we)])), (hN, .inl (k 2, 6, .inr (.inl nf)))] (fun u => some (.int (iZ u.1.1))) (fun u => ((0 ≤ tp ∧ tp ≤ 900) ∧ (0 ≤ ln ∧ ln ≤ 900) ∧ (0 ≤ u.1.2.1 ∧ u.1.2.1 ≤ u.1.2.2.1) ∧ (u.1.2.2.1 ≤ ln) ∧ (0 ≤ u.1.2.2.2.1 ∧ u.1.2.2.2.1 ≤ 4) ∧ (-2147483648 ≤ u.1.2.2.2.2.1 ∧ u.1.2.2.2.2.1 < 2147483648) ∧ (-1 ≤ u.1.2.2.2.2.2.1 ∧ u.1.2.2.2.2.2.1 ≤ 24)) ∧ (((u.1.1 : Int) = 1 ∧ ∃ (q9 a9 b9 c9 : Int), xTe (tX bf ln) N n cu = .inr (q9, a9, b9, c9) ∧ cu ≤ q9 ∧ RDX (tX bf ln) q9 u.1.2.1 u.1.2.2.1 u.1.2.2.2.1 u.1.2.2.2.2.1 u.1.2.2.2.2.2.1 u.2.1.2 ∧ (YF u.2.2.1.1 y1f a6 a9 ∧ YF u.2.2.1.2.1 y2f a6 b9 ∧ YF u.2.2.1.2.2 y3f a6 c9) ∧ u.1.2.2.2.2.2.2.1 = fk ∧ u.1.2.2.2.2.2.2.2 = fp) ∨ ((u.1.1 : Int) = 0 ∧ xTe (tX bf ln) N n cu = .inl (u.1.2.2.2.2.2.2.1, u.1.2.2.2.2.2.2.2)))) (fun u => [(hv, .inr (10, [.ref hr1, .ref oo, .int (iZ de), .ref hy, .ref hs])), (oo, .inl (k 1, 3, .inl of0)), (hr1, .inr (4, [.ref tx, .ref kw, .int (iZ tp), .int (iZ ln), .int (iZ u.1.2.1), .int (iZ u.1.2.2.1), .int (iZ u.1.2.2.2.1), .int (iZ u.1.2.2.2.2.1), .int (iZ u.1.2.2.2.2.2.1), .long u.2.1.2, .int (iZ u.1.2.2.2.2.2.2.1), .int (iZ u.1.2.2.2.2.2.2.2)])), (tx, .inl (k 0, 900, .inl bf)), (kw, .inl (k 2, 25, .inr (.inl kwf))), (hy, .inr (9, [.ref yw, .ref y1, .ref y2, .ref y3, .ref yp, .int (iZ th), .int (iZ ys), .int (iZ yr)])), (yw, .inl (k 1, 60, .inl ywf)), (y1, .inl (k 1, 60, .inl u.2.2.1.1)), (y2, .inl (k 1, 60, .inl u.2.2.1.2.1)), (y3, .inl (k 1, 60, .inl u.2.2.1.2.2)), (yp, .inl (k 1, 60, .inl ypf)), (hs, .inr (5, [.ref hN, .ref hf, .ref hg, .int (iZ n), .int (iZ ni), .int (iZ lw), .int (iZ we)])), (hN, .inl (k 2, 6, .inr (.inl nf)))]) := by
  refine MW (by decide) (Nat.le_of_ble_eq_true rfl) (fun p e s m below meth c ls A hx hb hml hr hlocks hin hts hown hKK hP hD hS hA hl => ?_)
  have hK := hKK.1
  have hl : lv_has ls 5 [(0, .ref hv), (1, .int (iZ a6))] := hl
  obtain ⟨⟨ar_1, br_1⟩, cr_1, dr_1, er_1, fr_1, gr_1, hr_1⟩ := id hrx
  refine lv_aload_n hx hb dX10_readTest_0 rfl (lv_at hl 0 rfl) ?_
  refine va_get (D := D) (ci := 10) (v := .ref hr1) (C := RX10) (T := TX10) (N := 5) hx hb hts iX10 hown hK hP 0 rfl rfl 0 (bl rfl) (hts _ qf_X10_15) (fun _ h => h) rfl dX10_readTest_1 ?_
  refine va_get (D := D) (ci := 4) (v := .int (iZ ke)) (C := RX4) (T := TX4) (N := 12) hx hb hts iX4 hown hK hP 2 rfl rfl 8 (bl rfl) (hts _ qf_X10_42) (fun _ h => h) rfl dX10_readTest_4 ?_
  refine lv_istore_n (lv' := [(2, .int (iZ ke)), (0, .ref hv), (1, .int (iZ a6))]) hx hb dX10_readTest_7 rfl hl (bl rfl) rfl (fun ls hl => ?_)
  refine lv_iload_n hx hb dX10_readTest_8 rfl (lv_at hl 0 rfl) ?_
  refine lv_bipush (v := iZ 15) hx hb dX10_readTest_9 bip_15 ?_
  refine lv_icmp_eq (tgt := 35) hx hb dX10_readTest_11 rfl (fun c_2 => ?_) (fun c_2 => ?_)
  ·
    have c_2 := (zeq (x := iZ ke) (y := iZ 15) rfl rfl ⟨by omega, by omega⟩ wn_15).mp c_2
    refine lv_aload_n hx hb dX10_readTest_35 rfl (lv_at hl 1 rfl) ?_
    refine va_get (D := D) (ci := 10) (v := .ref hr1) (C := RX10) (T := TX10) (N := 5) hx hb hts iX10 hown hK hP 0 rfl rfl 0 (bl rfl) (hts _ qf_X10_15) (fun _ h => h) rfl dX10_readTest_36 ?_
    refine CWV (As := []) (rest := []) (wc := _) (wr := [(hv, .inr (10, [.ref hr1, .ref oo, .int (iZ de), .ref hy, .ref hs])), (oo, .inl (k 1, 3, .inl of0)), (hy, .inr (9, [.ref yw, .ref y1, .ref y2, .ref y3, .ref yp, .int (iZ th), .int (iZ ys), .int (iZ yr)])), (yw, .inl (k 1, 60, .inl ywf)), (y1, .inl (k 1, 60, .inl y1f)), (y2, .inl (k 1, 60, .inl y2f)), (y3, .inl (k 1, 60, .inl y3f)), (yp, .inl (k 1, 60, .inl ypf)), (hs, .inr (5, [.ref hN, .ref hf, .ref hg, .int (iZ n), .int (iZ ni), .int (iZ lw), .int (iZ we)])), (hN, .inl (k 2, 6, .inr (.inl nf)))]) hx hb hml hown hts hKK hP hD hS hA (x_next l D k hr1 tx kw tp ln pl en ki va ke fk fp nm bf kwf ⟨⟨by omega, by omega⟩, ⟨by omega, by omega⟩, by omega, by omega⟩ hbf hkw) ci_X4_next qm_X10_59 ⟨Nat.le_of_ble_eq_true rfl, Nat.le_of_ble_eq_true rfl⟩ ⟨Nat.le_of_ble_eq_true rfl, Nat.le_of_ble_eq_true rfl⟩ [2, 3, 4] [0, 1, 5, 6, 7, 8, 9, 10, 11, 12] rfl rfl rfl rfl rfl (dj rfl) 0 rfl rfl rfl hl.1 rfl (Nat.le_of_ble_eq_true rfl) dX10_readTest_39 (fun u_3 H locs hφ hP hD hS => ?_)
    obtain ⟨p_4, p_5⟩ : (RDX (tX bf ln) en u_3.1.2.1 u_3.1.2.2.1 u_3.1.2.2.2.1 u_3.1.2.2.2.2.1 u_3.1.2.2.2.2.2 u_3.2.1.2) ∧ ((0 ≤ tp ∧ tp ≤ 900) ∧ (0 ≤ ln ∧ ln ≤ 900) ∧ (0 ≤ u_3.1.2.1 ∧ u_3.1.2.1 ≤ u_3.1.2.2.1) ∧ (u_3.1.2.2.1 ≤ ln) ∧ (0 ≤ u_3.1.2.2.2.1 ∧ u_3.1.2.2.2.1 ≤ 4) ∧ (-2147483648 ≤ u_3.1.2.2.2.2.1 ∧ u_3.1.2.2.2.2.1 < 2147483648) ∧ (-1 ≤ u_3.1.2.2.2.2.2 ∧ u_3.1.2.2.2.2.2 ≤ 24)) := hφ
    have rx_6 := RDX.nx hrx p_4
    obtain ⟨⟨ar_7, br_7⟩, cr_7, dr_7, er_7, fr_7, gr_7, hr_7⟩ := id rx_6
    obtain ⟨t1u_8, t2u_8, t3u_8, t4u_8, t5u_8, t6u_8, t7u_8⟩ := id p_5
    refine W.eq (g2 := F0 m 42 ls []) rfl ?_
    refine lv_aload_n hx hb dX10_readTest_42 rfl (lv_at hl 1 rfl) ?_
    refine va_get (D := D) (ci := 10) (v := .ref hy) (C := RX10) (T := TX10) (N := 5) hx hb hts iX10 hown hK hP 0 rfl rfl 3 (bl rfl) (hts _ qf_X10_19) (fun _ h => h) rfl dX10_readTest_43 ?_
    refine va_get (D := D) (ci := 9) (v := .ref y1) (C := RX9) (T := TX9) (N := 8) hx hb hts iX9 hown hK hP 2 rfl rfl 1 (bl rfl) (hts _ qf_X10_82) (fun _ h => h) rfl dX10_readTest_46 ?_
    refine lv_iload_n hx hb dX10_readTest_49 rfl (lv_at hl 2 rfl) ?_
    refine lv_iload_n hx hb dX10_readTest_50 rfl (lv_at hl 0 rfl) ?_
    refine va_iast hx hb hK hP hD hS 4 1 rfl rfl (zin (e := a6) (n := 60) ⟨by omega, by omega⟩ (bl rfl)) dX10_readTest_51 (fun H locs hP hD hS => ?_)
    obtain ⟨f_9, hf_9⟩ : ∃ gg9, gg9 = upd y1f (iZ a6).toNatClampNeg (iZ ke) := ⟨_, rfl⟩
    rw [← hf_9] at hP hD
    refine lv_iload_n hx hb dX10_readTest_52 rfl (lv_at hl 0 rfl) ?_
    refine lv_bipush (v := iZ 15) hx hb dX10_readTest_53 bip_15 ?_
    refine lv_icmp_ne (tgt := 68) hx hb dX10_readTest_55 rfl (fun c_10 => ?_) (fun c_10 => ?_)
    ·
      have c_10 := mt (zeq (x := iZ ke) (y := iZ 15) rfl rfl ⟨by omega, by omega⟩ wn_15).mpr c_10
      rcases (show ke = 7 ∨ ke = 20 from (by omega)) with hkd | hkd
      ·
        refine lv_aload_n hx hb dX10_readTest_68 rfl (lv_at hl 1 rfl) ?_
        refine va_get (D := D) (ci := 10) (v := .ref hr1) (C := RX10) (T := TX10) (N := 5) hx hb hts iX10 hown hK hP 0 rfl rfl 0 (bl rfl) (hts _ qf_X10_15) (fun _ h => h) rfl dX10_readTest_69 ?_
        refine lv_aload_n hx hb dX10_readTest_72 rfl (lv_at hl 1 rfl) ?_
        refine va_get (D := D) (ci := 10) (v := .ref hs) (C := RX10) (T := TX10) (N := 5) hx hb hts iX10 hown hK hP 0 rfl rfl 4 (bl rfl) (hts _ qf_X10_23) (fun _ h => h) rfl dX10_readTest_73 ?_
        refine lv_iconst (v := iZ (-1)) hx hb dX10_readTest_76 rfl ?_
        refine CWV (As := [.ref hs, .int (iZ (-1))]) (rest := []) (wc := _) (wr := [(hv, .inr (10, [.ref hr1, .ref oo, .int (iZ de), .ref hy, .ref hs])), (oo, .inl (k 1, 3, .inl of0)), (hy, .inr (9, [.ref yw, .ref y1, .ref y2, .ref y3, .ref yp, .int (iZ th), .int (iZ ys), .int (iZ yr)])), (yw, .inl (k 1, 60, .inl ywf)), (y1, .inl (k 1, 60, .inl f_9)), (y2, .inl (k 1, 60, .inl y2f)), (y3, .inl (k 1, 60, .inl y3f)), (yp, .inl (k 1, 60, .inl ypf))]) hx hb hml hown hts hKK hP hD hS hA (x_takeRock l D k ([.ref hN, .ref hf, .ref hg, .int (iZ n), .int (iZ ni), .int (iZ lw), .int (iZ we)]) hr1 tx kw hs hN tp ln u_3.1.2.1 u_3.1.2.2.1 u_3.1.2.2.2.1 u_3.1.2.2.2.2.1 u_3.1.2.2.2.2.2 fk fp u_3.2.1.2 bf kwf nf n (xEn (tX bf ln) cu) (-1) N rfl rfl (by first | with_reducible assumption | exact ⟨⟨by omega, by omega⟩, ⟨by omega, by omega⟩, ⟨by omega, by omega⟩, by omega, ⟨by omega, by omega⟩, ⟨by omega, by omega⟩, by omega, by omega⟩) hbf hkw rx_6 ⟨by omega, by omega⟩ ⟨by omega, by omega⟩ hns) ci_X4_takeRock qm_X10_89 ⟨Nat.le_of_ble_eq_true rfl, Nat.le_of_ble_eq_true rfl⟩ ⟨Nat.le_of_ble_eq_true rfl, Nat.le_of_ble_eq_true rfl⟩ [10, 11, 12, 8, 9] [0, 1, 2, 3, 4, 5, 6, 7] rfl rfl rfl rfl rfl (dj rfl) 0 rfl rfl rfl hl.1 rfl (Nat.le_of_ble_eq_true rfl) dX10_readTest_77 (fun u_11 H locs hφ hP hD hS => ?_)
        obtain ⟨p_12, p_13⟩ : ((0 ≤ tp ∧ tp ≤ 900) ∧ (0 ≤ ln ∧ ln ≤ 900) ∧ (0 ≤ u_11.1.2.1 ∧ u_11.1.2.1 ≤ u_11.1.2.2.1) ∧ (u_11.1.2.2.1 ≤ ln) ∧ (0 ≤ u_11.1.2.2.2.1 ∧ u_11.1.2.2.2.1 ≤ 4) ∧ (-2147483648 ≤ u_11.1.2.2.2.2.1 ∧ u_11.1.2.2.2.2.1 < 2147483648) ∧ (-1 ≤ u_11.1.2.2.2.2.2.1 ∧ u_11.1.2.2.2.2.2.1 ≤ 24)) ∧ ((¬ (u_11.1.1 : Int) = -1 ∧ ∃ q9 : Int, xTr (tX bf ln) N n (-1) (xEn (tX bf ln) cu) = .inr (q9, u_11.1.1) ∧ (xEn (tX bf ln) cu) < q9 ∧ RDX (tX bf ln) q9 u_11.1.2.1 u_11.1.2.2.1 u_11.1.2.2.2.1 u_11.1.2.2.2.2.1 u_11.1.2.2.2.2.2.1 u_11.2.1.2 ∧ (0 ≤ u_11.1.1 ∧ u_11.1.1 < n) ∧ u_11.1.2.2.2.2.2.2.1 = fk ∧ u_11.1.2.2.2.2.2.2.2 = fp) ∨ ((u_11.1.1 : Int) = -1 ∧ xTr (tX bf ln) N n (-1) (xEn (tX bf ln) cu) = .inl (u_11.1.2.2.2.2.2.2.1, u_11.1.2.2.2.2.2.2.2))) := hφ
        refine W.eq (g2 := F0 m 80 ls [.int (iZ u_11.1.1)]) rfl ?_
        rcases p_13 with ⟨qt_14, cut_14, st_14, lt_14, xt_14, rt_14, ut_14, vt_14⟩ | ⟨qt_14, st_14⟩
        ·
          obtain ⟨⟨ar_15, br_15⟩, cr_15, dr_15, er_15, fr_15, gr_15, hr_15⟩ := id xt_14
          refine lv_istore_n (lv' := [(3, .int (iZ u_11.1.1)), (2, .int (iZ ke)), (0, .ref hv), (1, .int (iZ a6))]) hx hb dX10_readTest_80 rfl hl (bl rfl) rfl (fun ls hl => ?_)
          refine lv_aload_n hx hb dX10_readTest_81 rfl (lv_at hl 2 rfl) ?_
          refine va_get (D := D) (ci := 10) (v := .ref hy) (C := RX10) (T := TX10) (N := 5) hx hb hts iX10 hown hK hP 0 rfl rfl 3 (bl rfl) (hts _ qf_X10_19) (fun _ h => h) rfl dX10_readTest_82 ?_
          refine va_get (D := D) (ci := 9) (v := .ref y2) (C := RX9) (T := TX9) (N := 8) hx hb hts iX9 hown hK hP 2 rfl rfl 2 (bl rfl) (hts _ qf_X10_93) (fun _ h => h) rfl dX10_readTest_85 ?_
          refine lv_iload_n hx hb dX10_readTest_88 rfl (lv_at hl 3 rfl) ?_
          refine lv_iload_n hx hb dX10_readTest_89 rfl (lv_at hl 0 rfl) ?_
          refine va_iast hx hb hK hP hD hS 5 1 rfl rfl (zin (e := a6) (n := 60) ⟨by omega, by omega⟩ (bl rfl)) dX10_readTest_90 (fun H locs hP hD hS => ?_)
          obtain ⟨f_16, hf_16⟩ : ∃ gg9, gg9 = upd y2f (iZ a6).toNatClampNeg (iZ u_11.1.1) := ⟨_, rfl⟩
          rw [← hf_16] at hP hD
          refine lv_iload_n hx hb dX10_readTest_91 rfl (lv_at hl 0 rfl) ?_
          refine lv_iconst (v := iZ (-1)) hx hb dX10_readTest_92 rfl ?_
          refine lv_icmp_eq (tgt := 102) hx hb dX10_readTest_93 rfl (fun c_17 => ?_) (fun c_17 => ?_)
          ·
            have c_17 := (zeq (x := iZ u_11.1.1) (y := iZ (-1)) rfl rfl ⟨by omega, by omega⟩ wn_m1).mp c_17
            exact absurd c_17 (by omega)
          ·
            have c_17 := mt (zeq (x := iZ u_11.1.1) (y := iZ (-1)) rfl rfl ⟨by omega, by omega⟩ wn_m1).mpr c_17
            refine lv_iload_n hx hb dX10_readTest_96 rfl (lv_at hl 1 rfl) ?_
            refine lv_bipush (v := iZ 7) hx hb dX10_readTest_97 bip_7 ?_
            refine lv_icmp_ne (tgt := 113) hx hb dX10_readTest_99 rfl (fun c_18 => ?_) (fun c_18 => ?_)
            ·
              have c_18 := mt (zeq (x := iZ ke) (y := iZ 7) rfl rfl ⟨by omega, by omega⟩ wn_7).mpr c_18
              exact absurd c_18 (by omega)
            ·
              have c_18 := (zeq (x := iZ ke) (y := iZ 7) rfl rfl ⟨by omega, by omega⟩ wn_7).mp c_18
              refine lv_iload_n hx hb dX10_readTest_102 rfl (lv_at hl 0 rfl) ?_
              refine lv_iconst (v := iZ (-1)) hx hb dX10_readTest_103 rfl ?_
              refine lv_icmp_eq (tgt := 111) hx hb dX10_readTest_104 rfl (fun c_19 => ?_) (fun c_19 => ?_)
              ·
                have c_19 := (zeq (x := iZ u_11.1.1) (y := iZ (-1)) rfl rfl ⟨by omega, by omega⟩ wn_m1).mp c_19
                exact absurd c_19 (by omega)
              ·
                have c_19 := mt (zeq (x := iZ u_11.1.1) (y := iZ (-1)) rfl rfl ⟨by omega, by omega⟩ wn_m1).mpr c_19
                refine lv_iconst (v := iZ 1) hx hb dX10_readTest_107 rfl ?_
                refine lv_goto (tgt := 112) hx hb dX10_readTest_108 rfl ?_
                exact EWz hx hb hr hlocks hS ((1, u_11.1.2.1, u_11.1.2.2.1, u_11.1.2.2.2.1, u_11.1.2.2.2.2.1, u_11.1.2.2.2.2.2.1, u_11.1.2.2.2.2.2.2.1, u_11.1.2.2.2.2.2.2.2), (0, u_11.2.1.2), (f_9, f_16, y3f), ()) rfl rfl ⟨(show (0 ≤ tp ∧ tp ≤ 900) ∧ (0 ≤ ln ∧ ln ≤ 900) ∧ (0 ≤ u_11.1.2.1 ∧ u_11.1.2.1 ≤ u_11.1.2.2.1) ∧ (u_11.1.2.2.1 ≤ ln) ∧ (0 ≤ u_11.1.2.2.2.1 ∧ u_11.1.2.2.2.1 ≤ 4) ∧ (-2147483648 ≤ u_11.1.2.2.2.2.1 ∧ u_11.1.2.2.2.2.1 < 2147483648) ∧ (-1 ≤ u_11.1.2.2.2.2.2.1 ∧ u_11.1.2.2.2.2.2.1 ≤ 24) from (by first | with_reducible assumption | exact ⟨⟨by omega, by omega⟩, ⟨by omega, by omega⟩, ⟨by omega, by omega⟩, by omega, ⟨by omega, by omega⟩, ⟨by omega, by omega⟩, by omega, by omega⟩)), (show ((1 : Int) = 1 ∧ ∃ (q9 a9 b9 c9 : Int), xTe (tX bf ln) N n cu = .inr (q9, a9, b9, c9) ∧ cu ≤ q9 ∧ RDX (tX bf ln) q9 u_11.1.2.1 u_11.1.2.2.1 u_11.1.2.2.2.1 u_11.1.2.2.2.2.1 u_11.1.2.2.2.2.2.1 u_11.2.1.2 ∧ (YF f_9 y1f a6 a9 ∧ YF f_16 y2f a6 b9 ∧ YF y3f y3f a6 c9) ∧ u_11.1.2.2.2.2.2.2.1 = fk ∧ u_11.1.2.2.2.2.2.2.2 = fp) ∨ ((1 : Int) = 0 ∧ xTe (tX bf ln) N n cu = .inl (u_11.1.2.2.2.2.2.2.1, u_11.1.2.2.2.2.2.2.2)) from (Or.inl ⟨rfl, _, _, _, _, xTe_7 (show xKw (tX bf ln) cu = 7 from (by omega)) st_14, by omega, xt_14, ⟨(Or.inr ⟨ke, by omega, hf_9⟩), (Or.inr ⟨u_11.1.1, by omega, hf_16⟩), (Or.inl ⟨rfl, rfl⟩)⟩, by omega, by omega⟩))⟩ (hP.sub [0, 1, 8, 9, 10, 2, 3, 4, 5, 6, 7, 11, 12] rfl) (hD.sub [0, 1, 8, 9, 10, 2, 3, 4, 5, 6, 7, 11, 12] rfl rfl) dX10_readTest_112
        ·
          rw [qt_14]
          refine lv_istore_n (lv' := [(3, .int (iZ (-1))), (2, .int (iZ ke)), (0, .ref hv), (1, .int (iZ a6))]) hx hb dX10_readTest_80 rfl hl (bl rfl) rfl (fun ls hl => ?_)
          refine lv_aload_n hx hb dX10_readTest_81 rfl (lv_at hl 2 rfl) ?_
          refine va_get (D := D) (ci := 10) (v := .ref hy) (C := RX10) (T := TX10) (N := 5) hx hb hts iX10 hown hK hP 0 rfl rfl 3 (bl rfl) (hts _ qf_X10_19) (fun _ h => h) rfl dX10_readTest_82 ?_
          refine va_get (D := D) (ci := 9) (v := .ref y2) (C := RX9) (T := TX9) (N := 8) hx hb hts iX9 hown hK hP 2 rfl rfl 2 (bl rfl) (hts _ qf_X10_93) (fun _ h => h) rfl dX10_readTest_85 ?_
          refine lv_iload_n hx hb dX10_readTest_88 rfl (lv_at hl 3 rfl) ?_
          refine lv_iload_n hx hb dX10_readTest_89 rfl (lv_at hl 0 rfl) ?_
          refine va_iast hx hb hK hP hD hS 5 1 rfl rfl (zin (e := a6) (n := 60) ⟨by omega, by omega⟩ (bl rfl)) dX10_readTest_90 (fun H locs hP hD hS => ?_)
          obtain ⟨f_20, hf_20⟩ : ∃ gg9, gg9 = upd y2f (iZ a6).toNatClampNeg (iZ (-1)) := ⟨_, rfl⟩
          rw [← hf_20] at hP hD
          refine lv_iload_n hx hb dX10_readTest_91 rfl (lv_at hl 0 rfl) ?_
          refine lv_iconst (v := iZ (-1)) hx hb dX10_readTest_92 rfl ?_
          refine lv_icmp_eq (tgt := 102) hx hb dX10_readTest_93 rfl (fun _ => ?_) (fun c => absurd (by decide) c)
          refine lv_iload_n hx hb dX10_readTest_102 rfl (lv_at hl 0 rfl) ?_
          refine lv_iconst (v := iZ (-1)) hx hb dX10_readTest_103 rfl ?_
          refine lv_icmp_eq (tgt := 111) hx hb dX10_readTest_104 rfl (fun _ => ?_) (fun c => absurd (by decide) c)
          refine lv_iconst (v := iZ 0) hx hb dX10_readTest_111 rfl ?_
          exact EWz hx hb hr hlocks hS ((0, u_11.1.2.1, u_11.1.2.2.1, u_11.1.2.2.2.1, u_11.1.2.2.2.2.1, u_11.1.2.2.2.2.2.1, u_11.1.2.2.2.2.2.2.1, u_11.1.2.2.2.2.2.2.2), (0, u_11.2.1.2), (f_9, f_20, y3f), ()) rfl rfl ⟨(show (0 ≤ tp ∧ tp ≤ 900) ∧ (0 ≤ ln ∧ ln ≤ 900) ∧ (0 ≤ u_11.1.2.1 ∧ u_11.1.2.1 ≤ u_11.1.2.2.1) ∧ (u_11.1.2.2.1 ≤ ln) ∧ (0 ≤ u_11.1.2.2.2.1 ∧ u_11.1.2.2.2.1 ≤ 4) ∧ (-2147483648 ≤ u_11.1.2.2.2.2.1 ∧ u_11.1.2.2.2.2.1 < 2147483648) ∧ (-1 ≤ u_11.1.2.2.2.2.2.1 ∧ u_11.1.2.2.2.2.2.1 ≤ 24) from (by first | with_reducible assumption | exact ⟨⟨by omega, by omega⟩, ⟨by omega, by omega⟩, ⟨by omega, by omega⟩, by omega, ⟨by omega, by omega⟩, ⟨by omega, by omega⟩, by omega, by omega⟩)), (show ((0 : Int) = 1 ∧ ∃ (q9 a9 b9 c9 : Int), xTe (tX bf ln) N n cu = .inr (q9, a9, b9, c9) ∧ cu ≤ q9 ∧ RDX (tX bf ln) q9 u_11.1.2.1 u_11.1.2.2.1 u_11.1.2.2.2.1 u_11.1.2.2.2.2.1 u_11.1.2.2.2.2.2.1 u_11.2.1.2 ∧ (YF f_9 y1f a6 a9 ∧ YF f_20 y2f a6 b9 ∧ YF y3f y3f a6 c9) ∧ u_11.1.2.2.2.2.2.2.1 = fk ∧ u_11.1.2.2.2.2.2.2.2 = fp) ∨ ((0 : Int) = 0 ∧ xTe (tX bf ln) N n cu = .inl (u_11.1.2.2.2.2.2.2.1, u_11.1.2.2.2.2.2.2.2)) from (Or.inr ⟨rfl, xTe_7a (show xKw (tX bf ln) cu = 7 from (by omega)) st_14⟩))⟩ (hP.sub [0, 1, 8, 9, 10, 2, 3, 4, 5, 6, 7, 11, 12] rfl) (hD.sub [0, 1, 8, 9, 10, 2, 3, 4, 5, 6, 7, 11, 12] rfl rfl) dX10_readTest_112
      ·
        refine lv_aload_n hx hb dX10_readTest_68 rfl (lv_at hl 1 rfl) ?_
        refine va_get (D := D) (ci := 10) (v := .ref hr1) (C := RX10) (T := TX10) (N := 5) hx hb hts iX10 hown hK hP 0 rfl rfl 0 (bl rfl) (hts _ qf_X10_15) (fun _ h => h) rfl dX10_readTest_69 ?_
        refine lv_aload_n hx hb dX10_readTest_72 rfl (lv_at hl 1 rfl) ?_
        refine va_get (D := D) (ci := 10) (v := .ref hs) (C := RX10) (T := TX10) (N := 5) hx hb hts iX10 hown hK hP 0 rfl rfl 4 (bl rfl) (hts _ qf_X10_23) (fun _ h => h) rfl dX10_readTest_73 ?_
        refine lv_iconst (v := iZ (-1)) hx hb dX10_readTest_76 rfl ?_
        refine CWV (As := [.ref hs, .int (iZ (-1))]) (rest := []) (wc := _) (wr := [(hv, .inr (10, [.ref hr1, .ref oo, .int (iZ de), .ref hy, .ref hs])), (oo, .inl (k 1, 3, .inl of0)), (hy, .inr (9, [.ref yw, .ref y1, .ref y2, .ref y3, .ref yp, .int (iZ th), .int (iZ ys), .int (iZ yr)])), (yw, .inl (k 1, 60, .inl ywf)), (y1, .inl (k 1, 60, .inl f_9)), (y2, .inl (k 1, 60, .inl y2f)), (y3, .inl (k 1, 60, .inl y3f)), (yp, .inl (k 1, 60, .inl ypf))]) hx hb hml hown hts hKK hP hD hS hA (x_takeRock l D k ([.ref hN, .ref hf, .ref hg, .int (iZ n), .int (iZ ni), .int (iZ lw), .int (iZ we)]) hr1 tx kw hs hN tp ln u_3.1.2.1 u_3.1.2.2.1 u_3.1.2.2.2.1 u_3.1.2.2.2.2.1 u_3.1.2.2.2.2.2 fk fp u_3.2.1.2 bf kwf nf n (xEn (tX bf ln) cu) (-1) N rfl rfl (by first | with_reducible assumption | exact ⟨⟨by omega, by omega⟩, ⟨by omega, by omega⟩, ⟨by omega, by omega⟩, by omega, ⟨by omega, by omega⟩, ⟨by omega, by omega⟩, by omega, by omega⟩) hbf hkw rx_6 ⟨by omega, by omega⟩ ⟨by omega, by omega⟩ hns) ci_X4_takeRock qm_X10_89 ⟨Nat.le_of_ble_eq_true rfl, Nat.le_of_ble_eq_true rfl⟩ ⟨Nat.le_of_ble_eq_true rfl, Nat.le_of_ble_eq_true rfl⟩ [10, 11, 12, 8, 9] [0, 1, 2, 3, 4, 5, 6, 7] rfl rfl rfl rfl rfl (dj rfl) 0 rfl rfl rfl hl.1 rfl (Nat.le_of_ble_eq_true rfl) dX10_readTest_77 (fun u_23 H locs hφ hP hD hS => ?_)
        obtain ⟨p_24, p_25⟩ : ((0 ≤ tp ∧ tp ≤ 900) ∧ (0 ≤ ln ∧ ln ≤ 900) ∧ (0 ≤ u_23.1.2.1 ∧ u_23.1.2.1 ≤ u_23.1.2.2.1) ∧ (u_23.1.2.2.1 ≤ ln) ∧ (0 ≤ u_23.1.2.2.2.1 ∧ u_23.1.2.2.2.1 ≤ 4) ∧ (-2147483648 ≤ u_23.1.2.2.2.2.1 ∧ u_23.1.2.2.2.2.1 < 2147483648) ∧ (-1 ≤ u_23.1.2.2.2.2.2.1 ∧ u_23.1.2.2.2.2.2.1 ≤ 24)) ∧ ((¬ (u_23.1.1 : Int) = -1 ∧ ∃ q9 : Int, xTr (tX bf ln) N n (-1) (xEn (tX bf ln) cu) = .inr (q9, u_23.1.1) ∧ (xEn (tX bf ln) cu) < q9 ∧ RDX (tX bf ln) q9 u_23.1.2.1 u_23.1.2.2.1 u_23.1.2.2.2.1 u_23.1.2.2.2.2.1 u_23.1.2.2.2.2.2.1 u_23.2.1.2 ∧ (0 ≤ u_23.1.1 ∧ u_23.1.1 < n) ∧ u_23.1.2.2.2.2.2.2.1 = fk ∧ u_23.1.2.2.2.2.2.2.2 = fp) ∨ ((u_23.1.1 : Int) = -1 ∧ xTr (tX bf ln) N n (-1) (xEn (tX bf ln) cu) = .inl (u_23.1.2.2.2.2.2.2.1, u_23.1.2.2.2.2.2.2.2))) := hφ
        refine W.eq (g2 := F0 m 80 ls [.int (iZ u_23.1.1)]) rfl ?_
        rcases p_25 with ⟨qt_26, cut_26, st_26, lt_26, xt_26, rt_26, ut_26, vt_26⟩ | ⟨qt_26, st_26⟩
        ·
          obtain ⟨⟨ar_27, br_27⟩, cr_27, dr_27, er_27, fr_27, gr_27, hr_27⟩ := id xt_26
          refine lv_istore_n (lv' := [(3, .int (iZ u_23.1.1)), (2, .int (iZ ke)), (0, .ref hv), (1, .int (iZ a6))]) hx hb dX10_readTest_80 rfl hl (bl rfl) rfl (fun ls hl => ?_)
          refine lv_aload_n hx hb dX10_readTest_81 rfl (lv_at hl 2 rfl) ?_
          refine va_get (D := D) (ci := 10) (v := .ref hy) (C := RX10) (T := TX10) (N := 5) hx hb hts iX10 hown hK hP 0 rfl rfl 3 (bl rfl) (hts _ qf_X10_19) (fun _ h => h) rfl dX10_readTest_82 ?_
          refine va_get (D := D) (ci := 9) (v := .ref y2) (C := RX9) (T := TX9) (N := 8) hx hb hts iX9 hown hK hP 2 rfl rfl 2 (bl rfl) (hts _ qf_X10_93) (fun _ h => h) rfl dX10_readTest_85 ?_
          refine lv_iload_n hx hb dX10_readTest_88 rfl (lv_at hl 3 rfl) ?_
          refine lv_iload_n hx hb dX10_readTest_89 rfl (lv_at hl 0 rfl) ?_
          refine va_iast hx hb hK hP hD hS 5 1 rfl rfl (zin (e := a6) (n := 60) ⟨by omega, by omega⟩ (bl rfl)) dX10_readTest_90 (fun H locs hP hD hS => ?_)
          obtain ⟨f_28, hf_28⟩ : ∃ gg9, gg9 = upd y2f (iZ a6).toNatClampNeg (iZ u_23.1.1) := ⟨_, rfl⟩
          rw [← hf_28] at hP hD
          refine lv_iload_n hx hb dX10_readTest_91 rfl (lv_at hl 0 rfl) ?_
          refine lv_iconst (v := iZ (-1)) hx hb dX10_readTest_92 rfl ?_
          refine lv_icmp_eq (tgt := 102) hx hb dX10_readTest_93 rfl (fun c_29 => ?_) (fun c_29 => ?_)
          ·
            have c_29 := (zeq (x := iZ u_23.1.1) (y := iZ (-1)) rfl rfl ⟨by omega, by omega⟩ wn_m1).mp c_29
            exact absurd c_29 (by omega)
          ·
            have c_29 := mt (zeq (x := iZ u_23.1.1) (y := iZ (-1)) rfl rfl ⟨by omega, by omega⟩ wn_m1).mpr c_29
            refine lv_iload_n hx hb dX10_readTest_96 rfl (lv_at hl 1 rfl) ?_
            refine lv_bipush (v := iZ 7) hx hb dX10_readTest_97 bip_7 ?_
            refine lv_icmp_ne (tgt := 113) hx hb dX10_readTest_99 rfl (fun c_30 => ?_) (fun c_30 => ?_)
            ·
              have c_30 := mt (zeq (x := iZ ke) (y := iZ 7) rfl rfl ⟨by omega, by omega⟩ wn_7).mpr c_30
              refine lv_iload_n hx hb dX10_readTest_113 rfl (lv_at hl 1 rfl) ?_
              refine lv_bipush (v := iZ 20) hx hb dX10_readTest_114 bip_20 ?_
              refine lv_icmp_ne (tgt := 133) hx hb dX10_readTest_116 rfl (fun c_31 => ?_) (fun c_31 => ?_)
              ·
                have c_31 := mt (zeq (x := iZ ke) (y := iZ 20) rfl rfl ⟨by omega, by omega⟩ wn_20).mpr c_31
                exact absurd c_31 (by omega)
              ·
                have c_31 := (zeq (x := iZ ke) (y := iZ 20) rfl rfl ⟨by omega, by omega⟩ wn_20).mp c_31
                refine lv_aload_n hx hb dX10_readTest_119 rfl (lv_at hl 2 rfl) ?_
                refine va_get (D := D) (ci := 10) (v := .ref hr1) (C := RX10) (T := TX10) (N := 5) hx hb hts iX10 hown hK hP 0 rfl rfl 0 (bl rfl) (hts _ qf_X10_15) (fun _ h => h) rfl dX10_readTest_120 ?_
                refine lv_bipush (v := iZ 21) hx hb dX10_readTest_123 bip_21 ?_
                refine CWV (As := [.int (iZ 21)]) (rest := []) (wc := _) (wr := [(hv, .inr (10, [.ref hr1, .ref oo, .int (iZ de), .ref hy, .ref hs])), (oo, .inl (k 1, 3, .inl of0)), (hy, .inr (9, [.ref yw, .ref y1, .ref y2, .ref y3, .ref yp, .int (iZ th), .int (iZ ys), .int (iZ yr)])), (yw, .inl (k 1, 60, .inl ywf)), (y1, .inl (k 1, 60, .inl f_9)), (y2, .inl (k 1, 60, .inl f_28)), (y3, .inl (k 1, 60, .inl y3f)), (yp, .inl (k 1, 60, .inl ypf)), (hs, .inr (5, [.ref hN, .ref hf, .ref hg, .int (iZ n), .int (iZ ni), .int (iZ lw), .int (iZ we)])), (hN, .inl (k 2, 6, .inr (.inl nf)))]) hx hb hml hown hts hKK hP hD hS hA (x_takeWord l D k hr1 tx kw tp ln u_23.1.2.1 u_23.1.2.2.1 u_23.1.2.2.2.1 u_23.1.2.2.2.2.1 u_23.1.2.2.2.2.2.1 u_23.1.2.2.2.2.2.2.1 u_23.1.2.2.2.2.2.2.2 u_23.2.1.2 bf kwf cut_26 21 (by first | with_reducible assumption | exact ⟨⟨by omega, by omega⟩, ⟨by omega, by omega⟩, ⟨by omega, by omega⟩, by omega, ⟨by omega, by omega⟩, ⟨by omega, by omega⟩, by omega, by omega⟩) hbf hkw xt_26 ⟨by omega, by omega⟩) ci_X4_takeWord qm_X10_103 ⟨Nat.le_of_ble_eq_true rfl, Nat.le_of_ble_eq_true rfl⟩ ⟨Nat.le_of_ble_eq_true rfl, Nat.le_of_ble_eq_true rfl⟩ [8, 9, 10] [0, 1, 2, 3, 4, 5, 6, 7, 11, 12] rfl rfl rfl rfl rfl (dj rfl) 0 rfl rfl rfl hl.1 rfl (Nat.le_of_ble_eq_true rfl) dX10_readTest_125 (fun u_32 H locs hφ hP hD hS => ?_)
                obtain ⟨p_33, p_34⟩ : ((0 ≤ tp ∧ tp ≤ 900) ∧ (0 ≤ ln ∧ ln ≤ 900) ∧ (0 ≤ u_32.1.2.1 ∧ u_32.1.2.1 ≤ u_32.1.2.2.1) ∧ (u_32.1.2.2.1 ≤ ln) ∧ (0 ≤ u_32.1.2.2.2.1 ∧ u_32.1.2.2.2.1 ≤ 4) ∧ (-2147483648 ≤ u_32.1.2.2.2.2.1 ∧ u_32.1.2.2.2.2.1 < 2147483648) ∧ (-1 ≤ u_32.1.2.2.2.2.2.1 ∧ u_32.1.2.2.2.2.2.1 ≤ 24)) ∧ (((u_32.1.1 : Int) = 1 ∧ ∃ q9 : Int, xTw (tX bf ln) 21 cut_26 = .inr q9 ∧ cut_26 < q9 ∧ RDX (tX bf ln) q9 u_32.1.2.1 u_32.1.2.2.1 u_32.1.2.2.2.1 u_32.1.2.2.2.2.1 u_32.1.2.2.2.2.2.1 u_32.2.1.2 ∧ u_32.1.2.2.2.2.2.2.1 = u_23.1.2.2.2.2.2.2.1 ∧ u_32.1.2.2.2.2.2.2.2 = u_23.1.2.2.2.2.2.2.2) ∨ ((u_32.1.1 : Int) = 0 ∧ xTw (tX bf ln) 21 cut_26 = .inl (u_32.1.2.2.2.2.2.2.1, u_32.1.2.2.2.2.2.2.2))) := hφ
                refine W.eq (g2 := F0 m 128 ls [.int (iZ u_32.1.1)]) rfl ?_
                rcases p_34 with ⟨qt_35, cut_35, st_35, lt_35, xt_35, ut_35, vt_35⟩ | ⟨qt_35, st_35⟩
                ·
                  rw [qt_35]
                  obtain ⟨⟨ar_36, br_36⟩, cr_36, dr_36, er_36, fr_36, gr_36, hr_36⟩ := id xt_35
                  refine lv_if_ne (tgt := 133) hx hb dX10_readTest_128 rfl (fun _ => ?_) (fun c => absurd c (by decide))
                  refine lv_iload_n hx hb dX10_readTest_133 rfl (lv_at hl 1 rfl) ?_
                  refine lv_bipush (v := iZ 15) hx hb dX10_readTest_134 bip_15 ?_
                  refine lv_icmp_ne (tgt := 153) hx hb dX10_readTest_136 rfl (fun c_38 => ?_) (fun c_38 => ?_)
                  ·
                    have c_38 := mt (zeq (x := iZ ke) (y := iZ 15) rfl rfl ⟨by omega, by omega⟩ wn_15).mpr c_38
                    refine lv_aload_n hx hb dX10_readTest_153 rfl (lv_at hl 2 rfl) ?_
                    refine va_get (D := D) (ci := 10) (v := .ref hr1) (C := RX10) (T := TX10) (N := 5) hx hb hts iX10 hown hK hP 0 rfl rfl 0 (bl rfl) (hts _ qf_X10_15) (fun _ h => h) rfl dX10_readTest_154 ?_
                    refine lv_aload_n hx hb dX10_readTest_157 rfl (lv_at hl 2 rfl) ?_
                    refine va_get (D := D) (ci := 10) (v := .ref hs) (C := RX10) (T := TX10) (N := 5) hx hb hts iX10 hown hK hP 0 rfl rfl 4 (bl rfl) (hts _ qf_X10_23) (fun _ h => h) rfl dX10_readTest_158 ?_
                    refine lv_iconst (v := iZ (-1)) hx hb dX10_readTest_161 rfl ?_
                    refine CWV (As := [.ref hs, .int (iZ (-1))]) (rest := []) (wc := _) (wr := [(hv, .inr (10, [.ref hr1, .ref oo, .int (iZ de), .ref hy, .ref hs])), (oo, .inl (k 1, 3, .inl of0)), (hy, .inr (9, [.ref yw, .ref y1, .ref y2, .ref y3, .ref yp, .int (iZ th), .int (iZ ys), .int (iZ yr)])), (yw, .inl (k 1, 60, .inl ywf)), (y1, .inl (k 1, 60, .inl f_9)), (y2, .inl (k 1, 60, .inl f_28)), (y3, .inl (k 1, 60, .inl y3f)), (yp, .inl (k 1, 60, .inl ypf))]) hx hb hml hown hts hKK hP hD hS hA (x_takeRock l D k ([.ref hN, .ref hf, .ref hg, .int (iZ n), .int (iZ ni), .int (iZ lw), .int (iZ we)]) hr1 tx kw hs hN tp ln u_32.1.2.1 u_32.1.2.2.1 u_32.1.2.2.2.1 u_32.1.2.2.2.2.1 u_32.1.2.2.2.2.2.1 u_32.1.2.2.2.2.2.2.1 u_32.1.2.2.2.2.2.2.2 u_32.2.1.2 bf kwf nf n cut_35 (-1) N rfl rfl (by first | with_reducible assumption | exact ⟨⟨by omega, by omega⟩, ⟨by omega, by omega⟩, ⟨by omega, by omega⟩, by omega, ⟨by omega, by omega⟩, ⟨by omega, by omega⟩, by omega, by omega⟩) hbf hkw xt_35 ⟨by omega, by omega⟩ ⟨by omega, by omega⟩ hns) ci_X4_takeRock qm_X10_89 ⟨Nat.le_of_ble_eq_true rfl, Nat.le_of_ble_eq_true rfl⟩ ⟨Nat.le_of_ble_eq_true rfl, Nat.le_of_ble_eq_true rfl⟩ [10, 11, 12, 8, 9] [0, 1, 2, 3, 4, 5, 6, 7] rfl rfl rfl rfl rfl (dj rfl) 0 rfl rfl rfl hl.1 rfl (Nat.le_of_ble_eq_true rfl) dX10_readTest_162 (fun u_39 H locs hφ hP hD hS => ?_)
                    obtain ⟨p_40, p_41⟩ : ((0 ≤ tp ∧ tp ≤ 900) ∧ (0 ≤ ln ∧ ln ≤ 900) ∧ (0 ≤ u_39.1.2.1 ∧ u_39.1.2.1 ≤ u_39.1.2.2.1) ∧ (u_39.1.2.2.1 ≤ ln) ∧ (0 ≤ u_39.1.2.2.2.1 ∧ u_39.1.2.2.2.1 ≤ 4) ∧ (-2147483648 ≤ u_39.1.2.2.2.2.1 ∧ u_39.1.2.2.2.2.1 < 2147483648) ∧ (-1 ≤ u_39.1.2.2.2.2.2.1 ∧ u_39.1.2.2.2.2.2.1 ≤ 24)) ∧ ((¬ (u_39.1.1 : Int) = -1 ∧ ∃ q9 : Int, xTr (tX bf ln) N n (-1) cut_35 = .inr (q9, u_39.1.1) ∧ cut_35 < q9 ∧ RDX (tX bf ln) q9 u_39.1.2.1 u_39.1.2.2.1 u_39.1.2.2.2.1 u_39.1.2.2.2.2.1 u_39.1.2.2.2.2.2.1 u_39.2.1.2 ∧ (0 ≤ u_39.1.1 ∧ u_39.1.1 < n) ∧ u_39.1.2.2.2.2.2.2.1 = u_32.1.2.2.2.2.2.2.1 ∧ u_39.1.2.2.2.2.2.2.2 = u_32.1.2.2.2.2.2.2.2) ∨ ((u_39.1.1 : Int) = -1 ∧ xTr (tX bf ln) N n (-1) cut_35 = .inl (u_39.1.2.2.2.2.2.2.1, u_39.1.2.2.2.2.2.2.2))) := hφ
                    refine W.eq (g2 := F0 m 165 ls [.int (iZ u_39.1.1)]) rfl ?_
                    rcases p_41 with ⟨qt_42, cut_42, st_42, lt_42, xt_42, rt_42, ut_42, vt_42⟩ | ⟨qt_42, st_42⟩
                    ·
                      obtain ⟨⟨ar_43, br_43⟩, cr_43, dr_43, er_43, fr_43, gr_43, hr_43⟩ := id xt_42
                      refine lv_istore (lv' := [(4, .int (iZ u_39.1.1)), (3, .int (iZ u_23.1.1)), (2, .int (iZ ke)), (0, .ref hv), (1, .int (iZ a6))]) hx hb dX10_readTest_165 hl (bl rfl) rfl (fun ls hl => ?_)
                      refine lv_aload_n hx hb dX10_readTest_167 rfl (lv_at hl 3 rfl) ?_
                      refine va_get (D := D) (ci := 10) (v := .ref hy) (C := RX10) (T := TX10) (N := 5) hx hb hts iX10 hown hK hP 0 rfl rfl 3 (bl rfl) (hts _ qf_X10_19) (fun _ h => h) rfl dX10_readTest_168 ?_
                      refine va_get (D := D) (ci := 9) (v := .ref y3) (C := RX9) (T := TX9) (N := 8) hx hb hts iX9 hown hK hP 2 rfl rfl 3 (bl rfl) (hts _ qf_X10_106) (fun _ h => h) rfl dX10_readTest_171 ?_
                      refine lv_iload_n hx hb dX10_readTest_174 rfl (lv_at hl 4 rfl) ?_
                      refine lv_iload hx hb dX10_readTest_175 (lv_at hl 0 rfl) ?_
                      refine va_iast hx hb hK hP hD hS 6 1 rfl rfl (zin (e := a6) (n := 60) ⟨by omega, by omega⟩ (bl rfl)) dX10_readTest_177 (fun H locs hP hD hS => ?_)
                      obtain ⟨f_44, hf_44⟩ : ∃ gg9, gg9 = upd y3f (iZ a6).toNatClampNeg (iZ u_39.1.1) := ⟨_, rfl⟩
                      rw [← hf_44] at hP hD
                      refine lv_iload hx hb dX10_readTest_178 (lv_at hl 0 rfl) ?_
                      refine lv_iconst (v := iZ (-1)) hx hb dX10_readTest_180 rfl ?_
                      refine lv_icmp_eq (tgt := 188) hx hb dX10_readTest_181 rfl (fun c_45 => ?_) (fun c_45 => ?_)
                      ·
                        have c_45 := (zeq (x := iZ u_39.1.1) (y := iZ (-1)) rfl rfl ⟨by omega, by omega⟩ wn_m1).mp c_45
                        exact absurd c_45 (by omega)
                      ·
                        have c_45 := mt (zeq (x := iZ u_39.1.1) (y := iZ (-1)) rfl rfl ⟨by omega, by omega⟩ wn_m1).mpr c_45
                        refine lv_iconst (v := iZ 1) hx hb dX10_readTest_184 rfl ?_
                        refine lv_goto (tgt := 189) hx hb dX10_readTest_185 rfl ?_
                        exact EWz hx hb hr hlocks hS ((1, u_39.1.2.1, u_39.1.2.2.1, u_39.1.2.2.2.1, u_39.1.2.2.2.2.1, u_39.1.2.2.2.2.2.1, u_39.1.2.2.2.2.2.2.1, u_39.1.2.2.2.2.2.2.2), (0, u_39.2.1.2), (f_9, f_28, f_44), ()) rfl rfl ⟨(show (0 ≤ tp ∧ tp ≤ 900) ∧ (0 ≤ ln ∧ ln ≤ 900) ∧ (0 ≤ u_39.1.2.1 ∧ u_39.1.2.1 ≤ u_39.1.2.2.1) ∧ (u_39.1.2.2.1 ≤ ln) ∧ (0 ≤ u_39.1.2.2.2.1 ∧ u_39.1.2.2.2.1 ≤ 4) ∧ (-2147483648 ≤ u_39.1.2.2.2.2.1 ∧ u_39.1.2.2.2.2.1 < 2147483648) ∧ (-1 ≤ u_39.1.2.2.2.2.2.1 ∧ u_39.1.2.2.2.2.2.1 ≤ 24) from (by first | with_reducible assumption | exact ⟨⟨by omega, by omega⟩, ⟨by omega, by omega⟩, ⟨by omega, by omega⟩, by omega, ⟨by omega, by omega⟩, ⟨by omega, by omega⟩, by omega, by omega⟩)), (show ((1 : Int) = 1 ∧ ∃ (q9 a9 b9 c9 : Int), xTe (tX bf ln) N n cu = .inr (q9, a9, b9, c9) ∧ cu ≤ q9 ∧ RDX (tX bf ln) q9 u_39.1.2.1 u_39.1.2.2.1 u_39.1.2.2.2.1 u_39.1.2.2.2.2.1 u_39.1.2.2.2.2.2.1 u_39.2.1.2 ∧ (YF f_9 y1f a6 a9 ∧ YF f_28 y2f a6 b9 ∧ YF f_44 y3f a6 c9) ∧ u_39.1.2.2.2.2.2.2.1 = fk ∧ u_39.1.2.2.2.2.2.2.2 = fp) ∨ ((1 : Int) = 0 ∧ xTe (tX bf ln) N n cu = .inl (u_39.1.2.2.2.2.2.2.1, u_39.1.2.2.2.2.2.2.2)) from (Or.inl ⟨rfl, _, _, _, _, xTe_20 (show xKw (tX bf ln) cu = 20 from (by omega)) st_26 st_35 st_42, by omega, xt_42, ⟨(Or.inr ⟨ke, by omega, hf_9⟩), (Or.inr ⟨u_23.1.1, by omega, hf_28⟩), (Or.inr ⟨u_39.1.1, by omega, hf_44⟩)⟩, by omega, by omega⟩))⟩ (hP.sub [0, 1, 8, 9, 10, 2, 3, 4, 5, 6, 7, 11, 12] rfl) (hD.sub [0, 1, 8, 9, 10, 2, 3, 4, 5, 6, 7, 11, 12] rfl rfl) dX10_readTest_189
                    ·
                      rw [qt_42]
                      refine lv_istore (lv' := [(4, .int (iZ (-1))), (3, .int (iZ u_23.1.1)), (2, .int (iZ ke)), (0, .ref hv), (1, .int (iZ a6))]) hx hb dX10_readTest_165 hl (bl rfl) rfl (fun ls hl => ?_)
                      refine lv_aload_n hx hb dX10_readTest_167 rfl (lv_at hl 3 rfl) ?_
                      refine va_get (D := D) (ci := 10) (v := .ref hy) (C := RX10) (T := TX10) (N := 5) hx hb hts iX10 hown hK hP 0 rfl rfl 3 (bl rfl) (hts _ qf_X10_19) (fun _ h => h) rfl dX10_readTest_168 ?_
                      refine va_get (D := D) (ci := 9) (v := .ref y3) (C := RX9) (T := TX9) (N := 8) hx hb hts iX9 hown hK hP 2 rfl rfl 3 (bl rfl) (hts _ qf_X10_106) (fun _ h => h) rfl dX10_readTest_171 ?_
                      refine lv_iload_n hx hb dX10_readTest_174 rfl (lv_at hl 4 rfl) ?_
                      refine lv_iload hx hb dX10_readTest_175 (lv_at hl 0 rfl) ?_
                      refine va_iast hx hb hK hP hD hS 6 1 rfl rfl (zin (e := a6) (n := 60) ⟨by omega, by omega⟩ (bl rfl)) dX10_readTest_177 (fun H locs hP hD hS => ?_)
                      obtain ⟨f_46, hf_46⟩ : ∃ gg9, gg9 = upd y3f (iZ a6).toNatClampNeg (iZ (-1)) := ⟨_, rfl⟩
                      rw [← hf_46] at hP hD
                      refine lv_iload hx hb dX10_readTest_178 (lv_at hl 0 rfl) ?_
                      refine lv_iconst (v := iZ (-1)) hx hb dX10_readTest_180 rfl ?_
                      refine lv_icmp_eq (tgt := 188) hx hb dX10_readTest_181 rfl (fun _ => ?_) (fun c => absurd (by decide) c)
                      refine lv_iconst (v := iZ 0) hx hb dX10_readTest_188 rfl ?_
                      exact EWz hx hb hr hlocks hS ((0, u_39.1.2.1, u_39.1.2.2.1, u_39.1.2.2.2.1, u_39.1.2.2.2.2.1, u_39.1.2.2.2.2.2.1, u_39.1.2.2.2.2.2.2.1, u_39.1.2.2.2.2.2.2.2), (0, u_39.2.1.2), (f_9, f_28, f_46), ()) rfl rfl ⟨(show (0 ≤ tp ∧ tp ≤ 900) ∧ (0 ≤ ln ∧ ln ≤ 900) ∧ (0 ≤ u_39.1.2.1 ∧ u_39.1.2.1 ≤ u_39.1.2.2.1) ∧ (u_39.1.2.2.1 ≤ ln) ∧ (0 ≤ u_39.1.2.2.2.1 ∧ u_39.1.2.2.2.1 ≤ 4) ∧ (-2147483648 ≤ u_39.1.2.2.2.2.1 ∧ u_39.1.2.2.2.2.1 < 2147483648) ∧ (-1 ≤ u_39.1.2.2.2.2.2.1 ∧ u_39.1.2.2.2.2.2.1 ≤ 24) from (by first | with_reducible assumption | exact ⟨⟨by omega, by omega⟩, ⟨by omega, by omega⟩, ⟨by omega, by omega⟩, by omega, ⟨by omega, by omega⟩, ⟨by omega, by omega⟩, by omega, by omega⟩)), (show ((0 : Int) = 1 ∧ ∃ (q9 a9 b9 c9 : Int), xTe (tX bf ln) N n cu = .inr (q9, a9, b9, c9) ∧ cu ≤ q9 ∧ RDX (tX bf ln) q9 u_39.1.2.1 u_39.1.2.2.1 u_39.1.2.2.2.1 u_39.1.2.2.2.2.1 u_39.1.2.2.2.2.2.1 u_39.2.1.2 ∧ (YF f_9 y1f a6 a9 ∧ YF f_28 y2f a6 b9 ∧ YF f_46 y3f a6 c9) ∧ u_39.1.2.2.2.2.2.2.1 = fk ∧ u_39.1.2.2.2.2.2.2.2 = fp) ∨ ((0 : Int) = 0 ∧ xTe (tX bf ln) N n cu = .inl (u_39.1.2.2.2.2.2.2.1, u_39.1.2.2.2.2.2.2.2)) from (Or.inr ⟨rfl, xTe_20c (show xKw (tX bf ln) cu = 20 from (by omega)) st_26 st_35 st_42⟩))⟩ (hP.sub [0, 1, 8, 9, 10, 2, 3, 4, 5, 6, 7, 11, 12] rfl) (hD.sub [0, 1, 8, 9, 10, 2, 3, 4, 5, 6, 7, 11, 12] rfl rfl) dX10_readTest_189
                  ·
                    have c_38 := (zeq (x := iZ ke) (y := iZ 15) rfl rfl ⟨by omega, by omega⟩ wn_15).mp c_38
                    exact absurd c_38 (by omega)
                ·
                  rw [qt_35]
                  refine lv_if_ne (tgt := 133) hx hb dX10_readTest_128 rfl (fun c => absurd (by decide) c) (fun _ => ?_)
                  refine lv_iconst (v := iZ 0) hx hb dX10_readTest_131 rfl ?_
                  exact EWz hx hb hr hlocks hS ((0, u_32.1.2.1, u_32.1.2.2.1, u_32.1.2.2.2.1, u_32.1.2.2.2.2.1, u_32.1.2.2.2.2.2.1, u_32.1.2.2.2.2.2.2.1, u_32.1.2.2.2.2.2.2.2), (0, u_32.2.1.2), (f_9, f_28, y3f), ()) rfl rfl ⟨(show (0 ≤ tp ∧ tp ≤ 900) ∧ (0 ≤ ln ∧ ln ≤ 900) ∧ (0 ≤ u_32.1.2.1 ∧ u_32.1.2.1 ≤ u_32.1.2.2.1) ∧ (u_32.1.2.2.1 ≤ ln) ∧ (0 ≤ u_32.1.2.2.2.1 ∧ u_32.1.2.2.2.1 ≤ 4) ∧ (-2147483648 ≤ u_32.1.2.2.2.2.1 ∧ u_32.1.2.2.2.2.1 < 2147483648) ∧ (-1 ≤ u_32.1.2.2.2.2.2.1 ∧ u_32.1.2.2.2.2.2.1 ≤ 24) from (by first | with_reducible assumption | exact ⟨⟨by omega, by omega⟩, ⟨by omega, by omega⟩, ⟨by omega, by omega⟩, by omega, ⟨by omega, by omega⟩, ⟨by omega, by omega⟩, by omega, by omega⟩)), (show ((0 : Int) = 1 ∧ ∃ (q9 a9 b9 c9 : Int), xTe (tX bf ln) N n cu = .inr (q9, a9, b9, c9) ∧ cu ≤ q9 ∧ RDX (tX bf ln) q9 u_32.1.2.1 u_32.1.2.2.1 u_32.1.2.2.2.1 u_32.1.2.2.2.2.1 u_32.1.2.2.2.2.2.1 u_32.2.1.2 ∧ (YF f_9 y1f a6 a9 ∧ YF f_28 y2f a6 b9 ∧ YF y3f y3f a6 c9) ∧ u_32.1.2.2.2.2.2.2.1 = fk ∧ u_32.1.2.2.2.2.2.2.2 = fp) ∨ ((0 : Int) = 0 ∧ xTe (tX bf ln) N n cu = .inl (u_32.1.2.2.2.2.2.2.1, u_32.1.2.2.2.2.2.2.2)) from (Or.inr ⟨rfl, xTe_20b (show xKw (tX bf ln) cu = 20 from (by omega)) st_26 st_35⟩))⟩ (hP.sub [0, 1, 10, 11, 12, 2, 3, 4, 5, 6, 7, 8, 9] rfl) (hD.sub [0, 1, 10, 11, 12, 2, 3, 4, 5, 6, 7, 8, 9] rfl rfl) dX10_readTest_132
            ·
              have c_30 := (zeq (x := iZ ke) (y := iZ 7) rfl rfl ⟨by omega, by omega⟩ wn_7).mp c_30
              exact absurd c_30 (by omega)
        ·
          rw [qt_26]
          refine lv_istore_n (lv' := [(3, .int (iZ (-1))), (2, .int (iZ ke)), (0, .ref hv), (1, .int (iZ a6))]) hx hb dX10_readTest_80 rfl hl (bl rfl) rfl (fun ls hl => ?_)
          refine lv_aload_n hx hb dX10_readTest_81 rfl (lv_at hl 2 rfl) ?_
          refine va_get (D := D) (ci := 10) (v := .ref hy) (C := RX10) (T := TX10) (N := 5) hx hb hts iX10 hown hK hP 0 rfl rfl 3 (bl rfl) (hts _ qf_X10_19) (fun _ h => h) rfl dX10_readTest_82 ?_
          refine va_get (D := D) (ci := 9) (v := .ref y2) (C := RX9) (T := TX9) (N := 8) hx hb hts iX9 hown hK hP 2 rfl rfl 2 (bl rfl) (hts _ qf_X10_93) (fun _ h => h) rfl dX10_readTest_85 ?_
          refine lv_iload_n hx hb dX10_readTest_88 rfl (lv_at hl 3 rfl) ?_
          refine lv_iload_n hx hb dX10_readTest_89 rfl (lv_at hl 0 rfl) ?_
          refine va_iast hx hb hK hP hD hS 5 1 rfl rfl (zin (e := a6) (n := 60) ⟨by omega, by omega⟩ (bl rfl)) dX10_readTest_90 (fun H locs hP hD hS => ?_)
          obtain ⟨f_49, hf_49⟩ : ∃ gg9, gg9 = upd y2f (iZ a6).toNatClampNeg (iZ (-1)) := ⟨_, rfl⟩
          rw [← hf_49] at hP hD
          refine lv_iload_n hx hb dX10_readTest_91 rfl (lv_at hl 0 rfl) ?_
          refine lv_iconst (v := iZ (-1)) hx hb dX10_readTest_92 rfl ?_
          refine lv_icmp_eq (tgt := 102) hx hb dX10_readTest_93 rfl (fun _ => ?_) (fun c => absurd (by decide) c)
          refine lv_iload_n hx hb dX10_readTest_102 rfl (lv_at hl 0 rfl) ?_
          refine lv_iconst (v := iZ (-1)) hx hb dX10_readTest_103 rfl ?_
          refine lv_icmp_eq (tgt := 111) hx hb dX10_readTest_104 rfl (fun _ => ?_) (fun c => absurd (by decide) c)
          refine lv_iconst (v := iZ 0) hx hb dX10_readTest_111 rfl ?_
          exact EWz hx hb hr hlocks hS ((0, u_23.1.2.1, u_23.1.2.2.1, u_23.1.2.2.2.1, u_23.1.2.2.2.2.1, u_23.1.2.2.2.2.2.1, u_23.1.2.2.2.2.2.2.1, u_23.1.2.2.2.2.2.2.2), (0, u_23.2.1.2), (f_9, f_49, y3f), ()) rfl rfl ⟨(show (0 ≤ tp ∧ tp ≤ 900) ∧ (0 ≤ ln ∧ ln ≤ 900) ∧ (0 ≤ u_23.1.2.1 ∧ u_23.1.2.1 ≤ u_23.1.2.2.1) ∧ (u_23.1.2.2.1 ≤ ln) ∧ (0 ≤ u_23.1.2.2.2.1 ∧ u_23.1.2.2.2.1 ≤ 4) ∧ (-2147483648 ≤ u_23.1.2.2.2.2.1 ∧ u_23.1.2.2.2.2.1 < 2147483648) ∧ (-1 ≤ u_23.1.2.2.2.2.2.1 ∧ u_23.1.2.2.2.2.2.1 ≤ 24) from (by first | with_reducible assumption | exact ⟨⟨by omega, by omega⟩, ⟨by omega, by omega⟩, ⟨by omega, by omega⟩, by omega, ⟨by omega, by omega⟩, ⟨by omega, by omega⟩, by omega, by omega⟩)), (show ((0 : Int) = 1 ∧ ∃ (q9 a9 b9 c9 : Int), xTe (tX bf ln) N n cu = .inr (q9, a9, b9, c9) ∧ cu ≤ q9 ∧ RDX (tX bf ln) q9 u_23.1.2.1 u_23.1.2.2.1 u_23.1.2.2.2.1 u_23.1.2.2.2.2.1 u_23.1.2.2.2.2.2.1 u_23.2.1.2 ∧ (YF f_9 y1f a6 a9 ∧ YF f_49 y2f a6 b9 ∧ YF y3f y3f a6 c9) ∧ u_23.1.2.2.2.2.2.2.1 = fk ∧ u_23.1.2.2.2.2.2.2.2 = fp) ∨ ((0 : Int) = 0 ∧ xTe (tX bf ln) N n cu = .inl (u_23.1.2.2.2.2.2.2.1, u_23.1.2.2.2.2.2.2.2)) from (Or.inr ⟨rfl, xTe_20a (show xKw (tX bf ln) cu = 20 from (by omega)) st_26⟩))⟩ (hP.sub [0, 1, 8, 9, 10, 2, 3, 4, 5, 6, 7, 11, 12] rfl) (hD.sub [0, 1, 8, 9, 10, 2, 3, 4, 5, 6, 7, 11, 12] rfl rfl) dX10_readTest_112
    ·
      have c_10 := (zeq (x := iZ ke) (y := iZ 15) rfl rfl ⟨by omega, by omega⟩ wn_15).mp c_10
      refine lv_aload_n hx hb dX10_readTest_58 rfl (lv_at hl 1 rfl) ?_
      refine va_get (D := D) (ci := 10) (v := .ref hr1) (C := RX10) (T := TX10) (N := 5) hx hb hts iX10 hown hK hP 0 rfl rfl 0 (bl rfl) (hts _ qf_X10_15) (fun _ h => h) rfl dX10_readTest_59 ?_
      refine CWV (As := []) (rest := []) (wc := _) (wr := [(hv, .inr (10, [.ref hr1, .ref oo, .int (iZ de), .ref hy, .ref hs])), (oo, .inl (k 1, 3, .inl of0)), (hy, .inr (9, [.ref yw, .ref y1, .ref y2, .ref y3, .ref yp, .int (iZ th), .int (iZ ys), .int (iZ yr)])), (yw, .inl (k 1, 60, .inl ywf)), (y1, .inl (k 1, 60, .inl f_9)), (y2, .inl (k 1, 60, .inl y2f)), (y3, .inl (k 1, 60, .inl y3f)), (yp, .inl (k 1, 60, .inl ypf)), (hs, .inr (5, [.ref hN, .ref hf, .ref hg, .int (iZ n), .int (iZ ni), .int (iZ lw), .int (iZ we)])), (hN, .inl (k 2, 6, .inr (.inl nf)))]) hx hb hml hown hts hKK hP hD hS hA (x_takeCompares l D k hr1 tx kw tp ln u_3.1.2.1 u_3.1.2.2.1 u_3.1.2.2.2.1 u_3.1.2.2.2.2.1 u_3.1.2.2.2.2.2 fk fp u_3.2.1.2 bf kwf (xEn (tX bf ln) cu) (by first | with_reducible assumption | exact ⟨⟨by omega, by omega⟩, ⟨by omega, by omega⟩, ⟨by omega, by omega⟩, by omega, ⟨by omega, by omega⟩, ⟨by omega, by omega⟩, by omega, by omega⟩) hbf hkw rx_6) ci_X4_takeCompares qm_X10_99 ⟨Nat.le_of_ble_eq_true rfl, Nat.le_of_ble_eq_true rfl⟩ ⟨Nat.le_of_ble_eq_true rfl, Nat.le_of_ble_eq_true rfl⟩ [10, 11, 12] [0, 1, 2, 3, 4, 5, 6, 7, 8, 9] rfl rfl rfl rfl rfl (dj rfl) 0 rfl rfl rfl hl.1 rfl (Nat.le_of_ble_eq_true rfl) dX10_readTest_62 (fun u_52 H locs hφ hP hD hS => ?_)
      obtain ⟨p_53, p_54⟩ : ((0 ≤ tp ∧ tp ≤ 900) ∧ (0 ≤ ln ∧ ln ≤ 900) ∧ (0 ≤ u_52.1.2.1 ∧ u_52.1.2.1 ≤ u_52.1.2.2.1) ∧ (u_52.1.2.2.1 ≤ ln) ∧ (0 ≤ u_52.1.2.2.2.1 ∧ u_52.1.2.2.2.1 ≤ 4) ∧ (-2147483648 ≤ u_52.1.2.2.2.2.1 ∧ u_52.1.2.2.2.2.1 < 2147483648) ∧ (-1 ≤ u_52.1.2.2.2.2.2.1 ∧ u_52.1.2.2.2.2.2.1 ≤ 24)) ∧ ((¬ (u_52.1.1 : Int) = -1 ∧ ∃ q9 : Int, xTc (tX bf ln) (xEn (tX bf ln) cu) = .inr (q9, u_52.1.1) ∧ (xEn (tX bf ln) cu) < q9 ∧ RDX (tX bf ln) q9 u_52.1.2.1 u_52.1.2.2.1 u_52.1.2.2.2.1 u_52.1.2.2.2.2.1 u_52.1.2.2.2.2.2.1 u_52.2.1.2 ∧ (60 ≤ u_52.1.1 ∧ u_52.1.1 ≤ 62) ∧ u_52.1.2.2.2.2.2.2.1 = fk ∧ u_52.1.2.2.2.2.2.2.2 = fp) ∨ ((u_52.1.1 : Int) = -1 ∧ xTc (tX bf ln) (xEn (tX bf ln) cu) = .inl (u_52.1.2.2.2.2.2.2.1, u_52.1.2.2.2.2.2.2.2))) := hφ
      refine W.eq (g2 := F0 m 65 ls [.int (iZ u_52.1.1)]) rfl ?_
      rcases p_54 with ⟨qt_55, cut_55, st_55, lt_55, xt_55, rt_55, ut_55, vt_55⟩ | ⟨qt_55, st_55⟩
      ·
        obtain ⟨⟨ar_56, br_56⟩, cr_56, dr_56, er_56, fr_56, gr_56, hr_56⟩ := id xt_55
        refine lv_goto (tgt := 80) hx hb dX10_readTest_65 rfl ?_
        refine lv_istore_n (lv' := [(3, .int (iZ u_52.1.1)), (2, .int (iZ ke)), (0, .ref hv), (1, .int (iZ a6))]) hx hb dX10_readTest_80 rfl hl (bl rfl) rfl (fun ls hl => ?_)
        refine lv_aload_n hx hb dX10_readTest_81 rfl (lv_at hl 2 rfl) ?_
        refine va_get (D := D) (ci := 10) (v := .ref hy) (C := RX10) (T := TX10) (N := 5) hx hb hts iX10 hown hK hP 0 rfl rfl 3 (bl rfl) (hts _ qf_X10_19) (fun _ h => h) rfl dX10_readTest_82 ?_
        refine va_get (D := D) (ci := 9) (v := .ref y2) (C := RX9) (T := TX9) (N := 8) hx hb hts iX9 hown hK hP 2 rfl rfl 2 (bl rfl) (hts _ qf_X10_93) (fun _ h => h) rfl dX10_readTest_85 ?_
        refine lv_iload_n hx hb dX10_readTest_88 rfl (lv_at hl 3 rfl) ?_
        refine lv_iload_n hx hb dX10_readTest_89 rfl (lv_at hl 0 rfl) ?_
        refine va_iast hx hb hK hP hD hS 5 1 rfl rfl (zin (e := a6) (n := 60) ⟨by omega, by omega⟩ (bl rfl)) dX10_readTest_90 (fun H locs hP hD hS => ?_)
        obtain ⟨f_57, hf_57⟩ : ∃ gg9, gg9 = upd y2f (iZ a6).toNatClampNeg (iZ u_52.1.1) := ⟨_, rfl⟩
        rw [← hf_57] at hP hD
        refine lv_iload_n hx hb dX10_readTest_91 rfl (lv_at hl 0 rfl) ?_
        refine lv_iconst (v := iZ (-1)) hx hb dX10_readTest_92 rfl ?_
        refine lv_icmp_eq (tgt := 102) hx hb dX10_readTest_93 rfl (fun c_58 => ?_) (fun c_58 => ?_)
        ·
          have c_58 := (zeq (x := iZ u_52.1.1) (y := iZ (-1)) rfl rfl ⟨by omega, by omega⟩ wn_m1).mp c_58
          exact absurd c_58 (by omega)
        ·
          have c_58 := mt (zeq (x := iZ u_52.1.1) (y := iZ (-1)) rfl rfl ⟨by omega, by omega⟩ wn_m1).mpr c_58
          refine lv_iload_n hx hb dX10_readTest_96 rfl (lv_at hl 1 rfl) ?_
          refine lv_bipush (v := iZ 7) hx hb dX10_readTest_97 bip_7 ?_
          refine lv_icmp_ne (tgt := 113) hx hb dX10_readTest_99 rfl (fun c_59 => ?_) (fun c_59 => ?_)
          ·
            have c_59 := mt (zeq (x := iZ ke) (y := iZ 7) rfl rfl ⟨by omega, by omega⟩ wn_7).mpr c_59
            refine lv_iload_n hx hb dX10_readTest_113 rfl (lv_at hl 1 rfl) ?_
            refine lv_bipush (v := iZ 20) hx hb dX10_readTest_114 bip_20 ?_
            refine lv_icmp_ne (tgt := 133) hx hb dX10_readTest_116 rfl (fun c_60 => ?_) (fun c_60 => ?_)
            ·
              have c_60 := mt (zeq (x := iZ ke) (y := iZ 20) rfl rfl ⟨by omega, by omega⟩ wn_20).mpr c_60
              refine lv_iload_n hx hb dX10_readTest_133 rfl (lv_at hl 1 rfl) ?_
              refine lv_bipush (v := iZ 15) hx hb dX10_readTest_134 bip_15 ?_
              refine lv_icmp_ne (tgt := 153) hx hb dX10_readTest_136 rfl (fun c_61 => ?_) (fun c_61 => ?_)
              ·
                have c_61 := mt (zeq (x := iZ ke) (y := iZ 15) rfl rfl ⟨by omega, by omega⟩ wn_15).mpr c_61
                exact absurd c_61 (by omega)
              ·
                have c_61 := (zeq (x := iZ ke) (y := iZ 15) rfl rfl ⟨by omega, by omega⟩ wn_15).mp c_61
                refine lv_aload_n hx hb dX10_readTest_139 rfl (lv_at hl 2 rfl) ?_
                refine va_get (D := D) (ci := 10) (v := .ref hr1) (C := RX10) (T := TX10) (N := 5) hx hb hts iX10 hown hK hP 0 rfl rfl 0 (bl rfl) (hts _ qf_X10_15) (fun _ h => h) rfl dX10_readTest_140 ?_
                refine lv_iconst (v := iZ 0) hx hb dX10_readTest_143 rfl ?_
                refine lv_sipush (v := iZ 400) hx hb dX10_readTest_144 sip_400 ?_
                refine CWV (As := [.int (iZ 0), .int (iZ 400)]) (rest := []) (wc := _) (wr := [(hv, .inr (10, [.ref hr1, .ref oo, .int (iZ de), .ref hy, .ref hs])), (oo, .inl (k 1, 3, .inl of0)), (hy, .inr (9, [.ref yw, .ref y1, .ref y2, .ref y3, .ref yp, .int (iZ th), .int (iZ ys), .int (iZ yr)])), (yw, .inl (k 1, 60, .inl ywf)), (y1, .inl (k 1, 60, .inl f_9)), (y2, .inl (k 1, 60, .inl f_57)), (y3, .inl (k 1, 60, .inl y3f)), (yp, .inl (k 1, 60, .inl ypf)), (hs, .inr (5, [.ref hN, .ref hf, .ref hg, .int (iZ n), .int (iZ ni), .int (iZ lw), .int (iZ we)])), (hN, .inl (k 2, 6, .inr (.inl nf)))]) hx hb hml hown hts hKK hP hD hS hA (x_takeNumber l D k hr1 tx kw tp ln u_52.1.2.1 u_52.1.2.2.1 u_52.1.2.2.2.1 u_52.1.2.2.2.2.1 u_52.1.2.2.2.2.2.1 u_52.1.2.2.2.2.2.2.1 u_52.1.2.2.2.2.2.2.2 u_52.2.1.2 bf kwf cut_55 0 400 (by first | with_reducible assumption | exact ⟨⟨by omega, by omega⟩, ⟨by omega, by omega⟩, ⟨by omega, by omega⟩, by omega, ⟨by omega, by omega⟩, ⟨by omega, by omega⟩, by omega, by omega⟩) hbf hkw xt_55 ⟨by omega, by omega⟩ ⟨by omega, by omega⟩) ci_X4_takeNumber qm_X10_85 ⟨Nat.le_of_ble_eq_true rfl, Nat.le_of_ble_eq_true rfl⟩ ⟨Nat.le_of_ble_eq_true rfl, Nat.le_of_ble_eq_true rfl⟩ [10, 11, 12] [0, 1, 2, 3, 4, 5, 6, 7, 8, 9] rfl rfl rfl rfl rfl (dj rfl) 0 rfl rfl rfl hl.1 rfl (Nat.le_of_ble_eq_true rfl) dX10_readTest_147 (fun u_62 H locs hφ hP hD hS => ?_)
                obtain ⟨p_63, p_64⟩ : ((0 ≤ tp ∧ tp ≤ 900) ∧ (0 ≤ ln ∧ ln ≤ 900) ∧ (0 ≤ u_62.1.2.1 ∧ u_62.1.2.1 ≤ u_62.1.2.2.1) ∧ (u_62.1.2.2.1 ≤ ln) ∧ (0 ≤ u_62.1.2.2.2.1 ∧ u_62.1.2.2.2.1 ≤ 4) ∧ (-2147483648 ≤ u_62.1.2.2.2.2.1 ∧ u_62.1.2.2.2.2.1 < 2147483648) ∧ (-1 ≤ u_62.1.2.2.2.2.2.1 ∧ u_62.1.2.2.2.2.2.1 ≤ 24)) ∧ ((¬ (u_62.1.1 : Int) = -1 ∧ ∃ q9 : Int, xTn (tX bf ln) 0 400 cut_55 = .inr (q9, u_62.1.1) ∧ cut_55 < q9 ∧ RDX (tX bf ln) q9 u_62.1.2.1 u_62.1.2.2.1 u_62.1.2.2.2.1 u_62.1.2.2.2.2.1 u_62.1.2.2.2.2.2.1 u_62.2.1.2 ∧ (0 ≤ u_62.1.1 ∧ u_62.1.1 ≤ 400) ∧ u_62.1.2.2.2.2.2.2.1 = u_52.1.2.2.2.2.2.2.1 ∧ u_62.1.2.2.2.2.2.2.2 = u_52.1.2.2.2.2.2.2.2) ∨ ((u_62.1.1 : Int) = -1 ∧ xTn (tX bf ln) 0 400 cut_55 = .inl (u_62.1.2.2.2.2.2.2.1, u_62.1.2.2.2.2.2.2.2))) := hφ
                refine W.eq (g2 := F0 m 150 ls [.int (iZ u_62.1.1)]) rfl ?_
                rcases p_64 with ⟨qt_65, cut_65, st_65, lt_65, xt_65, rt_65, ut_65, vt_65⟩ | ⟨qt_65, st_65⟩
                ·
                  obtain ⟨⟨ar_66, br_66⟩, cr_66, dr_66, er_66, fr_66, gr_66, hr_66⟩ := id xt_65
                  refine lv_goto (tgt := 165) hx hb dX10_readTest_150 rfl ?_
                  refine lv_istore (lv' := [(4, .int (iZ u_62.1.1)), (3, .int (iZ u_52.1.1)), (2, .int (iZ ke)), (0, .ref hv), (1, .int (iZ a6))]) hx hb dX10_readTest_165 hl (bl rfl) rfl (fun ls hl => ?_)
                  refine lv_aload_n hx hb dX10_readTest_167 rfl (lv_at hl 3 rfl) ?_
                  refine va_get (D := D) (ci := 10) (v := .ref hy) (C := RX10) (T := TX10) (N := 5) hx hb hts iX10 hown hK hP 0 rfl rfl 3 (bl rfl) (hts _ qf_X10_19) (fun _ h => h) rfl dX10_readTest_168 ?_
                  refine va_get (D := D) (ci := 9) (v := .ref y3) (C := RX9) (T := TX9) (N := 8) hx hb hts iX9 hown hK hP 2 rfl rfl 3 (bl rfl) (hts _ qf_X10_106) (fun _ h => h) rfl dX10_readTest_171 ?_
                  refine lv_iload_n hx hb dX10_readTest_174 rfl (lv_at hl 4 rfl) ?_
                  refine lv_iload hx hb dX10_readTest_175 (lv_at hl 0 rfl) ?_
                  refine va_iast hx hb hK hP hD hS 6 1 rfl rfl (zin (e := a6) (n := 60) ⟨by omega, by omega⟩ (bl rfl)) dX10_readTest_177 (fun H locs hP hD hS => ?_)
                  obtain ⟨f_67, hf_67⟩ : ∃ gg9, gg9 = upd y3f (iZ a6).toNatClampNeg (iZ u_62.1.1) := ⟨_, rfl⟩
                  rw [← hf_67] at hP hD
                  refine lv_iload hx hb dX10_readTest_178 (lv_at hl 0 rfl) ?_
                  refine lv_iconst (v := iZ (-1)) hx hb dX10_readTest_180 rfl ?_
                  refine lv_icmp_eq (tgt := 188) hx hb dX10_readTest_181 rfl (fun c_68 => ?_) (fun c_68 => ?_)
                  ·
                    have c_68 := (zeq (x := iZ u_62.1.1) (y := iZ (-1)) rfl rfl ⟨by omega, by omega⟩ wn_m1).mp c_68
                    exact absurd c_68 (by omega)
                  ·
                    have c_68 := mt (zeq (x := iZ u_62.1.1) (y := iZ (-1)) rfl rfl ⟨by omega, by omega⟩ wn_m1).mpr c_68
                    refine lv_iconst (v := iZ 1) hx hb dX10_readTest_184 rfl ?_
                    refine lv_goto (tgt := 189) hx hb dX10_readTest_185 rfl ?_
                    exact EWz hx hb hr hlocks hS ((1, u_62.1.2.1, u_62.1.2.2.1, u_62.1.2.2.2.1, u_62.1.2.2.2.2.1, u_62.1.2.2.2.2.2.1, u_62.1.2.2.2.2.2.2.1, u_62.1.2.2.2.2.2.2.2), (0, u_62.2.1.2), (f_9, f_57, f_67), ()) rfl rfl ⟨(show (0 ≤ tp ∧ tp ≤ 900) ∧ (0 ≤ ln ∧ ln ≤ 900) ∧ (0 ≤ u_62.1.2.1 ∧ u_62.1.2.1 ≤ u_62.1.2.2.1) ∧ (u_62.1.2.2.1 ≤ ln) ∧ (0 ≤ u_62.1.2.2.2.1 ∧ u_62.1.2.2.2.1 ≤ 4) ∧ (-2147483648 ≤ u_62.1.2.2.2.2.1 ∧ u_62.1.2.2.2.2.1 < 2147483648) ∧ (-1 ≤ u_62.1.2.2.2.2.2.1 ∧ u_62.1.2.2.2.2.2.1 ≤ 24) from (by first | with_reducible assumption | exact ⟨⟨by omega, by omega⟩, ⟨by omega, by omega⟩, ⟨by omega, by omega⟩, by omega, ⟨by omega, by omega⟩, ⟨by omega, by omega⟩, by omega, by omega⟩)), (show ((1 : Int) = 1 ∧ ∃ (q9 a9 b9 c9 : Int), xTe (tX bf ln) N n cu = .inr (q9, a9, b9, c9) ∧ cu ≤ q9 ∧ RDX (tX bf ln) q9 u_62.1.2.1 u_62.1.2.2.1 u_62.1.2.2.2.1 u_62.1.2.2.2.2.1 u_62.1.2.2.2.2.2.1 u_62.2.1.2 ∧ (YF f_9 y1f a6 a9 ∧ YF f_57 y2f a6 b9 ∧ YF f_67 y3f a6 c9) ∧ u_62.1.2.2.2.2.2.2.1 = fk ∧ u_62.1.2.2.2.2.2.2.2 = fp) ∨ ((1 : Int) = 0 ∧ xTe (tX bf ln) N n cu = .inl (u_62.1.2.2.2.2.2.2.1, u_62.1.2.2.2.2.2.2.2)) from (Or.inl ⟨rfl, _, _, _, _, xTe_15 (show xKw (tX bf ln) cu = 15 from (by omega)) st_55 st_65, by omega, xt_65, ⟨(Or.inr ⟨ke, by omega, hf_9⟩), (Or.inr ⟨u_52.1.1, by omega, hf_57⟩), (Or.inr ⟨u_62.1.1, by omega, hf_67⟩)⟩, by omega, by omega⟩))⟩ (hP.sub [0, 1, 10, 11, 12, 2, 3, 4, 5, 6, 7, 8, 9] rfl) (hD.sub [0, 1, 10, 11, 12, 2, 3, 4, 5, 6, 7, 8, 9] rfl rfl) dX10_readTest_189
                ·
                  rw [qt_65]
                  refine lv_goto (tgt := 165) hx hb dX10_readTest_150 rfl ?_
                  refine lv_istore (lv' := [(4, .int (iZ (-1))), (3, .int (iZ u_52.1.1)), (2, .int (iZ ke)), (0, .ref hv), (1, .int (iZ a6))]) hx hb dX10_readTest_165 hl (bl rfl) rfl (fun ls hl => ?_)
                  refine lv_aload_n hx hb dX10_readTest_167 rfl (lv_at hl 3 rfl) ?_
                  refine va_get (D := D) (ci := 10) (v := .ref hy) (C := RX10) (T := TX10) (N := 5) hx hb hts iX10 hown hK hP 0 rfl rfl 3 (bl rfl) (hts _ qf_X10_19) (fun _ h => h) rfl dX10_readTest_168 ?_
                  refine va_get (D := D) (ci := 9) (v := .ref y3) (C := RX9) (T := TX9) (N := 8) hx hb hts iX9 hown hK hP 2 rfl rfl 3 (bl rfl) (hts _ qf_X10_106) (fun _ h => h) rfl dX10_readTest_171 ?_
                  refine lv_iload_n hx hb dX10_readTest_174 rfl (lv_at hl 4 rfl) ?_
                  refine lv_iload hx hb dX10_readTest_175 (lv_at hl 0 rfl) ?_
                  refine va_iast hx hb hK hP hD hS 6 1 rfl rfl (zin (e := a6) (n := 60) ⟨by omega, by omega⟩ (bl rfl)) dX10_readTest_177 (fun H locs hP hD hS => ?_)
                  obtain ⟨f_69, hf_69⟩ : ∃ gg9, gg9 = upd y3f (iZ a6).toNatClampNeg (iZ (-1)) := ⟨_, rfl⟩
                  rw [← hf_69] at hP hD
                  refine lv_iload hx hb dX10_readTest_178 (lv_at hl 0 rfl) ?_
                  refine lv_iconst (v := iZ (-1)) hx hb dX10_readTest_180 rfl ?_
                  refine lv_icmp_eq (tgt := 188) hx hb dX10_readTest_181 rfl (fun _ => ?_) (fun c => absurd (by decide) c)
                  refine lv_iconst (v := iZ 0) hx hb dX10_readTest_188 rfl ?_
                  exact EWz hx hb hr hlocks hS ((0, u_62.1.2.1, u_62.1.2.2.1, u_62.1.2.2.2.1, u_62.1.2.2.2.2.1, u_62.1.2.2.2.2.2.1, u_62.1.2.2.2.2.2.2.1, u_62.1.2.2.2.2.2.2.2), (0, u_62.2.1.2), (f_9, f_57, f_69), ()) rfl rfl ⟨(show (0 ≤ tp ∧ tp ≤ 900) ∧ (0 ≤ ln ∧ ln ≤ 900) ∧ (0 ≤ u_62.1.2.1 ∧ u_62.1.2.1 ≤ u_62.1.2.2.1) ∧ (u_62.1.2.2.1 ≤ ln) ∧ (0 ≤ u_62.1.2.2.2.1 ∧ u_62.1.2.2.2.1 ≤ 4) ∧ (-2147483648 ≤ u_62.1.2.2.2.2.1 ∧ u_62.1.2.2.2.2.1 < 2147483648) ∧ (-1 ≤ u_62.1.2.2.2.2.2.1 ∧ u_62.1.2.2.2.2.2.1 ≤ 24) from (by first | with_reducible assumption | exact ⟨⟨by omega, by omega⟩, ⟨by omega, by omega⟩, ⟨by omega, by omega⟩, by omega, ⟨by omega, by omega⟩, ⟨by omega, by omega⟩, by omega, by omega⟩)), (show ((0 : Int) = 1 ∧ ∃ (q9 a9 b9 c9 : Int), xTe (tX bf ln) N n cu = .inr (q9, a9, b9, c9) ∧ cu ≤ q9 ∧ RDX (tX bf ln) q9 u_62.1.2.1 u_62.1.2.2.1 u_62.1.2.2.2.1 u_62.1.2.2.2.2.1 u_62.1.2.2.2.2.2.1 u_62.2.1.2 ∧ (YF f_9 y1f a6 a9 ∧ YF f_57 y2f a6 b9 ∧ YF f_69 y3f a6 c9) ∧ u_62.1.2.2.2.2.2.2.1 = fk ∧ u_62.1.2.2.2.2.2.2.2 = fp) ∨ ((0 : Int) = 0 ∧ xTe (tX bf ln) N n cu = .inl (u_62.1.2.2.2.2.2.2.1, u_62.1.2.2.2.2.2.2.2)) from (Or.inr ⟨rfl, xTe_15b (show xKw (tX bf ln) cu = 15 from (by omega)) st_55 st_65⟩))⟩ (hP.sub [0, 1, 10, 11, 12, 2, 3, 4, 5, 6, 7, 8, 9] rfl) (hD.sub [0, 1, 10, 11, 12, 2, 3, 4, 5, 6, 7, 8, 9] rfl rfl) dX10_readTest_189
            ·
              have c_60 := (zeq (x := iZ ke) (y := iZ 20) rfl rfl ⟨by omega, by omega⟩ wn_20).mp c_60
              exact absurd c_60 (by omega)
          ·
            have c_59 := (zeq (x := iZ ke) (y := iZ 7) rfl rfl ⟨by omega, by omega⟩ wn_7).mp c_59
            exact absurd c_59 (by omega)
      ·
        rw [qt_55]
        refine lv_goto (tgt := 80) hx hb dX10_readTest_65 rfl ?_
        refine lv_istore_n (lv' := [(3, .int (iZ (-1))), (2, .int (iZ ke)), (0, .ref hv), (1, .int (iZ a6))]) hx hb dX10_readTest_80 rfl hl (bl rfl) rfl (fun ls hl => ?_)
        refine lv_aload_n hx hb dX10_readTest_81 rfl (lv_at hl 2 rfl) ?_
        refine va_get (D := D) (ci := 10) (v := .ref hy) (C := RX10) (T := TX10) (N := 5) hx hb hts iX10 hown hK hP 0 rfl rfl 3 (bl rfl) (hts _ qf_X10_19) (fun _ h => h) rfl dX10_readTest_82 ?_
        refine va_get (D := D) (ci := 9) (v := .ref y2) (C := RX9) (T := TX9) (N := 8) hx hb hts iX9 hown hK hP 2 rfl rfl 2 (bl rfl) (hts _ qf_X10_93) (fun _ h => h) rfl dX10_readTest_85 ?_
        refine lv_iload_n hx hb dX10_readTest_88 rfl (lv_at hl 3 rfl) ?_
        refine lv_iload_n hx hb dX10_readTest_89 rfl (lv_at hl 0 rfl) ?_
        refine va_iast hx hb hK hP hD hS 5 1 rfl rfl (zin (e := a6) (n := 60) ⟨by omega, by omega⟩ (bl rfl)) dX10_readTest_90 (fun H locs hP hD hS => ?_)
        obtain ⟨f_71, hf_71⟩ : ∃ gg9, gg9 = upd y2f (iZ a6).toNatClampNeg (iZ (-1)) := ⟨_, rfl⟩
        rw [← hf_71] at hP hD
        refine lv_iload_n hx hb dX10_readTest_91 rfl (lv_at hl 0 rfl) ?_
        refine lv_iconst (v := iZ (-1)) hx hb dX10_readTest_92 rfl ?_
        refine lv_icmp_eq (tgt := 102) hx hb dX10_readTest_93 rfl (fun _ => ?_) (fun c => absurd (by decide) c)
        refine lv_iload_n hx hb dX10_readTest_102 rfl (lv_at hl 0 rfl) ?_
        refine lv_iconst (v := iZ (-1)) hx hb dX10_readTest_103 rfl ?_
        refine lv_icmp_eq (tgt := 111) hx hb dX10_readTest_104 rfl (fun _ => ?_) (fun c => absurd (by decide) c)
        refine lv_iconst (v := iZ 0) hx hb dX10_readTest_111 rfl ?_
        exact EWz hx hb hr hlocks hS ((0, u_52.1.2.1, u_52.1.2.2.1, u_52.1.2.2.2.1, u_52.1.2.2.2.2.1, u_52.1.2.2.2.2.2.1, u_52.1.2.2.2.2.2.2.1, u_52.1.2.2.2.2.2.2.2), (0, u_52.2.1.2), (f_9, f_71, y3f), ()) rfl rfl ⟨(show (0 ≤ tp ∧ tp ≤ 900) ∧ (0 ≤ ln ∧ ln ≤ 900) ∧ (0 ≤ u_52.1.2.1 ∧ u_52.1.2.1 ≤ u_52.1.2.2.1) ∧ (u_52.1.2.2.1 ≤ ln) ∧ (0 ≤ u_52.1.2.2.2.1 ∧ u_52.1.2.2.2.1 ≤ 4) ∧ (-2147483648 ≤ u_52.1.2.2.2.2.1 ∧ u_52.1.2.2.2.2.1 < 2147483648) ∧ (-1 ≤ u_52.1.2.2.2.2.2.1 ∧ u_52.1.2.2.2.2.2.1 ≤ 24) from (by first | with_reducible assumption | exact ⟨⟨by omega, by omega⟩, ⟨by omega, by omega⟩, ⟨by omega, by omega⟩, by omega, ⟨by omega, by omega⟩, ⟨by omega, by omega⟩, by omega, by omega⟩)), (show ((0 : Int) = 1 ∧ ∃ (q9 a9 b9 c9 : Int), xTe (tX bf ln) N n cu = .inr (q9, a9, b9, c9) ∧ cu ≤ q9 ∧ RDX (tX bf ln) q9 u_52.1.2.1 u_52.1.2.2.1 u_52.1.2.2.2.1 u_52.1.2.2.2.2.1 u_52.1.2.2.2.2.2.1 u_52.2.1.2 ∧ (YF f_9 y1f a6 a9 ∧ YF f_71 y2f a6 b9 ∧ YF y3f y3f a6 c9) ∧ u_52.1.2.2.2.2.2.2.1 = fk ∧ u_52.1.2.2.2.2.2.2.2 = fp) ∨ ((0 : Int) = 0 ∧ xTe (tX bf ln) N n cu = .inl (u_52.1.2.2.2.2.2.2.1, u_52.1.2.2.2.2.2.2.2)) from (Or.inr ⟨rfl, xTe_15a (show xKw (tX bf ln) cu = 15 from (by omega)) st_55⟩))⟩ (hP.sub [0, 1, 10, 11, 12, 2, 3, 4, 5, 6, 7, 8, 9] rfl) (hD.sub [0, 1, 10, 11, 12, 2, 3, 4, 5, 6, 7, 8, 9] rfl rfl) dX10_readTest_112
  ·
    have c_2 := mt (zeq (x := iZ ke) (y := iZ 15) rfl rfl ⟨by omega, by omega⟩ wn_15).mpr c_2
    refine lv_iload_n hx hb dX10_readTest_14 rfl (lv_at hl 0 rfl) ?_
    refine lv_bipush (v := iZ 7) hx hb dX10_readTest_15 bip_7 ?_
    refine lv_icmp_eq (tgt := 35) hx hb dX10_readTest_17 rfl (fun c_74 => ?_) (fun c_74 => ?_)
    ·
      have c_74 := (zeq (x := iZ ke) (y := iZ 7) rfl rfl ⟨by omega, by omega⟩ wn_7).mp c_74
      refine lv_aload_n hx hb dX10_readTest_35 rfl (lv_at hl 1 rfl) ?_
      refine va_get (D := D) (ci := 10) (v := .ref hr1) (C := RX10) (T := TX10) (N := 5) hx hb hts iX10 hown hK hP 0 rfl rfl 0 (bl rfl) (hts _ qf_X10_15) (fun _ h => h) rfl dX10_readTest_36 ?_
      refine CWV (As := []) (rest := []) (wc := _) (wr := [(hv, .inr (10, [.ref hr1, .ref oo, .int (iZ de), .ref hy, .ref hs])), (oo, .inl (k 1, 3, .inl of0)), (hy, .inr (9, [.ref yw, .ref y1, .ref y2, .ref y3, .ref yp, .int (iZ th), .int (iZ ys), .int (iZ yr)])), (yw, .inl (k 1, 60, .inl ywf)), (y1, .inl (k 1, 60, .inl y1f)), (y2, .inl (k 1, 60, .inl y2f)), (y3, .inl (k 1, 60, .inl y3f)), (yp, .inl (k 1, 60, .inl ypf)), (hs, .inr (5, [.ref hN, .ref hf, .ref hg, .int (iZ n), .int (iZ ni), .int (iZ lw), .int (iZ we)])), (hN, .inl (k 2, 6, .inr (.inl nf)))]) hx hb hml hown hts hKK hP hD hS hA (x_next l D k hr1 tx kw tp ln pl en ki va ke fk fp nm bf kwf ⟨⟨by omega, by omega⟩, ⟨by omega, by omega⟩, by omega, by omega⟩ hbf hkw) ci_X4_next qm_X10_59 ⟨Nat.le_of_ble_eq_true rfl, Nat.le_of_ble_eq_true rfl⟩ ⟨Nat.le_of_ble_eq_true rfl, Nat.le_of_ble_eq_true rfl⟩ [2, 3, 4] [0, 1, 5, 6, 7, 8, 9, 10, 11, 12] rfl rfl rfl rfl rfl (dj rfl) 0 rfl rfl rfl hl.1 rfl (Nat.le_of_ble_eq_true rfl) dX10_readTest_39 (fun u_75 H locs hφ hP hD hS => ?_)
      obtain ⟨p_76, p_77⟩ : (RDX (tX bf ln) en u_75.1.2.1 u_75.1.2.2.1 u_75.1.2.2.2.1 u_75.1.2.2.2.2.1 u_75.1.2.2.2.2.2 u_75.2.1.2) ∧ ((0 ≤ tp ∧ tp ≤ 900) ∧ (0 ≤ ln ∧ ln ≤ 900) ∧ (0 ≤ u_75.1.2.1 ∧ u_75.1.2.1 ≤ u_75.1.2.2.1) ∧ (u_75.1.2.2.1 ≤ ln) ∧ (0 ≤ u_75.1.2.2.2.1 ∧ u_75.1.2.2.2.1 ≤ 4) ∧ (-2147483648 ≤ u_75.1.2.2.2.2.1 ∧ u_75.1.2.2.2.2.1 < 2147483648) ∧ (-1 ≤ u_75.1.2.2.2.2.2 ∧ u_75.1.2.2.2.2.2 ≤ 24)) := hφ
      have rx_78 := RDX.nx hrx p_76
      obtain ⟨⟨ar_79, br_79⟩, cr_79, dr_79, er_79, fr_79, gr_79, hr_79⟩ := id rx_78
      obtain ⟨t1u_80, t2u_80, t3u_80, t4u_80, t5u_80, t6u_80, t7u_80⟩ := id p_77
      refine W.eq (g2 := F0 m 42 ls []) rfl ?_
      refine lv_aload_n hx hb dX10_readTest_42 rfl (lv_at hl 1 rfl) ?_
      refine va_get (D := D) (ci := 10) (v := .ref hy) (C := RX10) (T := TX10) (N := 5) hx hb hts iX10 hown hK hP 0 rfl rfl 3 (bl rfl) (hts _ qf_X10_19) (fun _ h => h) rfl dX10_readTest_43 ?_
      refine va_get (D := D) (ci := 9) (v := .ref y1) (C := RX9) (T := TX9) (N := 8) hx hb hts iX9 hown hK hP 2 rfl rfl 1 (bl rfl) (hts _ qf_X10_82) (fun _ h => h) rfl dX10_readTest_46 ?_
      refine lv_iload_n hx hb dX10_readTest_49 rfl (lv_at hl 2 rfl) ?_
      refine lv_iload_n hx hb dX10_readTest_50 rfl (lv_at hl 0 rfl) ?_
      refine va_iast hx hb hK hP hD hS 4 1 rfl rfl (zin (e := a6) (n := 60) ⟨by omega, by omega⟩ (bl rfl)) dX10_readTest_51 (fun H locs hP hD hS => ?_)
      obtain ⟨f_81, hf_81⟩ : ∃ gg9, gg9 = upd y1f (iZ a6).toNatClampNeg (iZ ke) := ⟨_, rfl⟩
      rw [← hf_81] at hP hD
      refine lv_iload_n hx hb dX10_readTest_52 rfl (lv_at hl 0 rfl) ?_
      refine lv_bipush (v := iZ 15) hx hb dX10_readTest_53 bip_15 ?_
      refine lv_icmp_ne (tgt := 68) hx hb dX10_readTest_55 rfl (fun c_82 => ?_) (fun c_82 => ?_)
      ·
        have c_82 := mt (zeq (x := iZ ke) (y := iZ 15) rfl rfl ⟨by omega, by omega⟩ wn_15).mpr c_82
        rcases (show ke = 7 ∨ ke = 20 from (by omega)) with hkd | hkd
        ·
          refine lv_aload_n hx hb dX10_readTest_68 rfl (lv_at hl 1 rfl) ?_
          refine va_get (D := D) (ci := 10) (v := .ref hr1) (C := RX10) (T := TX10) (N := 5) hx hb hts iX10 hown hK hP 0 rfl rfl 0 (bl rfl) (hts _ qf_X10_15) (fun _ h => h) rfl dX10_readTest_69 ?_
          refine lv_aload_n hx hb dX10_readTest_72 rfl (lv_at hl 1 rfl) ?_
          refine va_get (D := D) (ci := 10) (v := .ref hs) (C := RX10) (T := TX10) (N := 5) hx hb hts iX10 hown hK hP 0 rfl rfl 4 (bl rfl) (hts _ qf_X10_23) (fun _ h => h) rfl dX10_readTest_73 ?_
          refine lv_iconst (v := iZ (-1)) hx hb dX10_readTest_76 rfl ?_
          refine CWV (As := [.ref hs, .int (iZ (-1))]) (rest := []) (wc := _) (wr := [(hv, .inr (10, [.ref hr1, .ref oo, .int (iZ de), .ref hy, .ref hs])), (oo, .inl (k 1, 3, .inl of0)), (hy, .inr (9, [.ref yw, .ref y1, .ref y2, .ref y3, .ref yp, .int (iZ th), .int (iZ ys), .int (iZ yr)])), (yw, .inl (k 1, 60, .inl ywf)), (y1, .inl (k 1, 60, .inl f_81)), (y2, .inl (k 1, 60, .inl y2f)), (y3, .inl (k 1, 60, .inl y3f)), (yp, .inl (k 1, 60, .inl ypf))]) hx hb hml hown hts hKK hP hD hS hA (x_takeRock l D k ([.ref hN, .ref hf, .ref hg, .int (iZ n), .int (iZ ni), .int (iZ lw), .int (iZ we)]) hr1 tx kw hs hN tp ln u_75.1.2.1 u_75.1.2.2.1 u_75.1.2.2.2.1 u_75.1.2.2.2.2.1 u_75.1.2.2.2.2.2 fk fp u_75.2.1.2 bf kwf nf n (xEn (tX bf ln) cu) (-1) N rfl rfl (by first | with_reducible assumption | exact ⟨⟨by omega, by omega⟩, ⟨by omega, by omega⟩, ⟨by omega, by omega⟩, by omega, ⟨by omega, by omega⟩, ⟨by omega, by omega⟩, by omega, by omega⟩) hbf hkw rx_78 ⟨by omega, by omega⟩ ⟨by omega, by omega⟩ hns) ci_X4_takeRock qm_X10_89 ⟨Nat.le_of_ble_eq_true rfl, Nat.le_of_ble_eq_true rfl⟩ ⟨Nat.le_of_ble_eq_true rfl, Nat.le_of_ble_eq_true rfl⟩ [10, 11, 12, 8, 9] [0, 1, 2, 3, 4, 5, 6, 7] rfl rfl rfl rfl rfl (dj rfl) 0 rfl rfl rfl hl.1 rfl (Nat.le_of_ble_eq_true rfl) dX10_readTest_77 (fun u_83 H locs hφ hP hD hS => ?_)
          obtain ⟨p_84, p_85⟩ : ((0 ≤ tp ∧ tp ≤ 900) ∧ (0 ≤ ln ∧ ln ≤ 900) ∧ (0 ≤ u_83.1.2.1 ∧ u_83.1.2.1 ≤ u_83.1.2.2.1) ∧ (u_83.1.2.2.1 ≤ ln) ∧ (0 ≤ u_83.1.2.2.2.1 ∧ u_83.1.2.2.2.1 ≤ 4) ∧ (-2147483648 ≤ u_83.1.2.2.2.2.1 ∧ u_83.1.2.2.2.2.1 < 2147483648) ∧ (-1 ≤ u_83.1.2.2.2.2.2.1 ∧ u_83.1.2.2.2.2.2.1 ≤ 24)) ∧ ((¬ (u_83.1.1 : Int) = -1 ∧ ∃ q9 : Int, xTr (tX bf ln) N n (-1) (xEn (tX bf ln) cu) = .inr (q9, u_83.1.1) ∧ (xEn (tX bf ln) cu) < q9 ∧ RDX (tX bf ln) q9 u_83.1.2.1 u_83.1.2.2.1 u_83.1.2.2.2.1 u_83.1.2.2.2.2.1 u_83.1.2.2.2.2.2.1 u_83.2.1.2 ∧ (0 ≤ u_83.1.1 ∧ u_83.1.1 < n) ∧ u_83.1.2.2.2.2.2.2.1 = fk ∧ u_83.1.2.2.2.2.2.2.2 = fp) ∨ ((u_83.1.1 : Int) = -1 ∧ xTr (tX bf ln) N n (-1) (xEn (tX bf ln) cu) = .inl (u_83.1.2.2.2.2.2.2.1, u_83.1.2.2.2.2.2.2.2))) := hφ
          refine W.eq (g2 := F0 m 80 ls [.int (iZ u_83.1.1)]) rfl ?_
          rcases p_85 with ⟨qt_86, cut_86, st_86, lt_86, xt_86, rt_86, ut_86, vt_86⟩ | ⟨qt_86, st_86⟩
          ·
            obtain ⟨⟨ar_87, br_87⟩, cr_87, dr_87, er_87, fr_87, gr_87, hr_87⟩ := id xt_86
            refine lv_istore_n (lv' := [(3, .int (iZ u_83.1.1)), (2, .int (iZ ke)), (0, .ref hv), (1, .int (iZ a6))]) hx hb dX10_readTest_80 rfl hl (bl rfl) rfl (fun ls hl => ?_)
            refine lv_aload_n hx hb dX10_readTest_81 rfl (lv_at hl 2 rfl) ?_
            refine va_get (D := D) (ci := 10) (v := .ref hy) (C := RX10) (T := TX10) (N := 5) hx hb hts iX10 hown hK hP 0 rfl rfl 3 (bl rfl) (hts _ qf_X10_19) (fun _ h => h) rfl dX10_readTest_82 ?_
            refine va_get (D := D) (ci := 9) (v := .ref y2) (C := RX9) (T := TX9) (N := 8) hx hb hts iX9 hown hK hP 2 rfl rfl 2 (bl rfl) (hts _ qf_X10_93) (fun _ h => h) rfl dX10_readTest_85 ?_
            refine lv_iload_n hx hb dX10_readTest_88 rfl (lv_at hl 3 rfl) ?_
            refine lv_iload_n hx hb dX10_readTest_89 rfl (lv_at hl 0 rfl) ?_
            refine va_iast hx hb hK hP hD hS 5 1 rfl rfl (zin (e := a6) (n := 60) ⟨by omega, by omega⟩ (bl rfl)) dX10_readTest_90 (fun H locs hP hD hS => ?_)
            obtain ⟨f_88, hf_88⟩ : ∃ gg9, gg9 = upd y2f (iZ a6).toNatClampNeg (iZ u_83.1.1) := ⟨_, rfl⟩
            rw [← hf_88] at hP hD
            refine lv_iload_n hx hb dX10_readTest_91 rfl (lv_at hl 0 rfl) ?_
            refine lv_iconst (v := iZ (-1)) hx hb dX10_readTest_92 rfl ?_
            refine lv_icmp_eq (tgt := 102) hx hb dX10_readTest_93 rfl (fun c_89 => ?_) (fun c_89 => ?_)
            ·
              have c_89 := (zeq (x := iZ u_83.1.1) (y := iZ (-1)) rfl rfl ⟨by omega, by omega⟩ wn_m1).mp c_89
              exact absurd c_89 (by omega)
            ·
              have c_89 := mt (zeq (x := iZ u_83.1.1) (y := iZ (-1)) rfl rfl ⟨by omega, by omega⟩ wn_m1).mpr c_89
              refine lv_iload_n hx hb dX10_readTest_96 rfl (lv_at hl 1 rfl) ?_
              refine lv_bipush (v := iZ 7) hx hb dX10_readTest_97 bip_7 ?_
              refine lv_icmp_ne (tgt := 113) hx hb dX10_readTest_99 rfl (fun c_90 => ?_) (fun c_90 => ?_)
              ·
                have c_90 := mt (zeq (x := iZ ke) (y := iZ 7) rfl rfl ⟨by omega, by omega⟩ wn_7).mpr c_90
                exact absurd c_90 (by omega)
              ·
                have c_90 := (zeq (x := iZ ke) (y := iZ 7) rfl rfl ⟨by omega, by omega⟩ wn_7).mp c_90
                refine lv_iload_n hx hb dX10_readTest_102 rfl (lv_at hl 0 rfl) ?_
                refine lv_iconst (v := iZ (-1)) hx hb dX10_readTest_103 rfl ?_
                refine lv_icmp_eq (tgt := 111) hx hb dX10_readTest_104 rfl (fun c_91 => ?_) (fun c_91 => ?_)
                ·
                  have c_91 := (zeq (x := iZ u_83.1.1) (y := iZ (-1)) rfl rfl ⟨by omega, by omega⟩ wn_m1).mp c_91
                  exact absurd c_91 (by omega)
                ·
                  have c_91 := mt (zeq (x := iZ u_83.1.1) (y := iZ (-1)) rfl rfl ⟨by omega, by omega⟩ wn_m1).mpr c_91
                  refine lv_iconst (v := iZ 1) hx hb dX10_readTest_107 rfl ?_
                  refine lv_goto (tgt := 112) hx hb dX10_readTest_108 rfl ?_
                  exact EWz hx hb hr hlocks hS ((1, u_83.1.2.1, u_83.1.2.2.1, u_83.1.2.2.2.1, u_83.1.2.2.2.2.1, u_83.1.2.2.2.2.2.1, u_83.1.2.2.2.2.2.2.1, u_83.1.2.2.2.2.2.2.2), (0, u_83.2.1.2), (f_81, f_88, y3f), ()) rfl rfl ⟨(show (0 ≤ tp ∧ tp ≤ 900) ∧ (0 ≤ ln ∧ ln ≤ 900) ∧ (0 ≤ u_83.1.2.1 ∧ u_83.1.2.1 ≤ u_83.1.2.2.1) ∧ (u_83.1.2.2.1 ≤ ln) ∧ (0 ≤ u_83.1.2.2.2.1 ∧ u_83.1.2.2.2.1 ≤ 4) ∧ (-2147483648 ≤ u_83.1.2.2.2.2.1 ∧ u_83.1.2.2.2.2.1 < 2147483648) ∧ (-1 ≤ u_83.1.2.2.2.2.2.1 ∧ u_83.1.2.2.2.2.2.1 ≤ 24) from (by first | with_reducible assumption | exact ⟨⟨by omega, by omega⟩, ⟨by omega, by omega⟩, ⟨by omega, by omega⟩, by omega, ⟨by omega, by omega⟩, ⟨by omega, by omega⟩, by omega, by omega⟩)), (show ((1 : Int) = 1 ∧ ∃ (q9 a9 b9 c9 : Int), xTe (tX bf ln) N n cu = .inr (q9, a9, b9, c9) ∧ cu ≤ q9 ∧ RDX (tX bf ln) q9 u_83.1.2.1 u_83.1.2.2.1 u_83.1.2.2.2.1 u_83.1.2.2.2.2.1 u_83.1.2.2.2.2.2.1 u_83.2.1.2 ∧ (YF f_81 y1f a6 a9 ∧ YF f_88 y2f a6 b9 ∧ YF y3f y3f a6 c9) ∧ u_83.1.2.2.2.2.2.2.1 = fk ∧ u_83.1.2.2.2.2.2.2.2 = fp) ∨ ((1 : Int) = 0 ∧ xTe (tX bf ln) N n cu = .inl (u_83.1.2.2.2.2.2.2.1, u_83.1.2.2.2.2.2.2.2)) from (Or.inl ⟨rfl, _, _, _, _, xTe_7 (show xKw (tX bf ln) cu = 7 from (by omega)) st_86, by omega, xt_86, ⟨(Or.inr ⟨ke, by omega, hf_81⟩), (Or.inr ⟨u_83.1.1, by omega, hf_88⟩), (Or.inl ⟨rfl, rfl⟩)⟩, by omega, by omega⟩))⟩ (hP.sub [0, 1, 8, 9, 10, 2, 3, 4, 5, 6, 7, 11, 12] rfl) (hD.sub [0, 1, 8, 9, 10, 2, 3, 4, 5, 6, 7, 11, 12] rfl rfl) dX10_readTest_112
          ·
            rw [qt_86]
            refine lv_istore_n (lv' := [(3, .int (iZ (-1))), (2, .int (iZ ke)), (0, .ref hv), (1, .int (iZ a6))]) hx hb dX10_readTest_80 rfl hl (bl rfl) rfl (fun ls hl => ?_)
            refine lv_aload_n hx hb dX10_readTest_81 rfl (lv_at hl 2 rfl) ?_
            refine va_get (D := D) (ci := 10) (v := .ref hy) (C := RX10) (T := TX10) (N := 5) hx hb hts iX10 hown hK hP 0 rfl rfl 3 (bl rfl) (hts _ qf_X10_19) (fun _ h => h) rfl dX10_readTest_82 ?_
            refine va_get (D := D) (ci := 9) (v := .ref y2) (C := RX9) (T := TX9) (N := 8) hx hb hts iX9 hown hK hP 2 rfl rfl 2 (bl rfl) (hts _ qf_X10_93) (fun _ h => h) rfl dX10_readTest_85 ?_
            refine lv_iload_n hx hb dX10_readTest_88 rfl (lv_at hl 3 rfl) ?_
            refine lv_iload_n hx hb dX10_readTest_89 rfl (lv_at hl 0 rfl) ?_
            refine va_iast hx hb hK hP hD hS 5 1 rfl rfl (zin (e := a6) (n := 60) ⟨by omega, by omega⟩ (bl rfl)) dX10_readTest_90 (fun H locs hP hD hS => ?_)
            obtain ⟨f_92, hf_92⟩ : ∃ gg9, gg9 = upd y2f (iZ a6).toNatClampNeg (iZ (-1)) := ⟨_, rfl⟩
            rw [← hf_92] at hP hD
            refine lv_iload_n hx hb dX10_readTest_91 rfl (lv_at hl 0 rfl) ?_
            refine lv_iconst (v := iZ (-1)) hx hb dX10_readTest_92 rfl ?_
            refine lv_icmp_eq (tgt := 102) hx hb dX10_readTest_93 rfl (fun _ => ?_) (fun c => absurd (by decide) c)
            refine lv_iload_n hx hb dX10_readTest_102 rfl (lv_at hl 0 rfl) ?_
            refine lv_iconst (v := iZ (-1)) hx hb dX10_readTest_103 rfl ?_
            refine lv_icmp_eq (tgt := 111) hx hb dX10_readTest_104 rfl (fun _ => ?_) (fun c => absurd (by decide) c)
            refine lv_iconst (v := iZ 0) hx hb dX10_readTest_111 rfl ?_
            exact EWz hx hb hr hlocks hS ((0, u_83.1.2.1, u_83.1.2.2.1, u_83.1.2.2.2.1, u_83.1.2.2.2.2.1, u_83.1.2.2.2.2.2.1, u_83.1.2.2.2.2.2.2.1, u_83.1.2.2.2.2.2.2.2), (0, u_83.2.1.2), (f_81, f_92, y3f), ()) rfl rfl ⟨(show (0 ≤ tp ∧ tp ≤ 900) ∧ (0 ≤ ln ∧ ln ≤ 900) ∧ (0 ≤ u_83.1.2.1 ∧ u_83.1.2.1 ≤ u_83.1.2.2.1) ∧ (u_83.1.2.2.1 ≤ ln) ∧ (0 ≤ u_83.1.2.2.2.1 ∧ u_83.1.2.2.2.1 ≤ 4) ∧ (-2147483648 ≤ u_83.1.2.2.2.2.1 ∧ u_83.1.2.2.2.2.1 < 2147483648) ∧ (-1 ≤ u_83.1.2.2.2.2.2.1 ∧ u_83.1.2.2.2.2.2.1 ≤ 24) from (by first | with_reducible assumption | exact ⟨⟨by omega, by omega⟩, ⟨by omega, by omega⟩, ⟨by omega, by omega⟩, by omega, ⟨by omega, by omega⟩, ⟨by omega, by omega⟩, by omega, by omega⟩)), (show ((0 : Int) = 1 ∧ ∃ (q9 a9 b9 c9 : Int), xTe (tX bf ln) N n cu = .inr (q9, a9, b9, c9) ∧ cu ≤ q9 ∧ RDX (tX bf ln) q9 u_83.1.2.1 u_83.1.2.2.1 u_83.1.2.2.2.1 u_83.1.2.2.2.2.1 u_83.1.2.2.2.2.2.1 u_83.2.1.2 ∧ (YF f_81 y1f a6 a9 ∧ YF f_92 y2f a6 b9 ∧ YF y3f y3f a6 c9) ∧ u_83.1.2.2.2.2.2.2.1 = fk ∧ u_83.1.2.2.2.2.2.2.2 = fp) ∨ ((0 : Int) = 0 ∧ xTe (tX bf ln) N n cu = .inl (u_83.1.2.2.2.2.2.2.1, u_83.1.2.2.2.2.2.2.2)) from (Or.inr ⟨rfl, xTe_7a (show xKw (tX bf ln) cu = 7 from (by omega)) st_86⟩))⟩ (hP.sub [0, 1, 8, 9, 10, 2, 3, 4, 5, 6, 7, 11, 12] rfl) (hD.sub [0, 1, 8, 9, 10, 2, 3, 4, 5, 6, 7, 11, 12] rfl rfl) dX10_readTest_112
        ·
          refine lv_aload_n hx hb dX10_readTest_68 rfl (lv_at hl 1 rfl) ?_
          refine va_get (D := D) (ci := 10) (v := .ref hr1) (C := RX10) (T := TX10) (N := 5) hx hb hts iX10 hown hK hP 0 rfl rfl 0 (bl rfl) (hts _ qf_X10_15) (fun _ h => h) rfl dX10_readTest_69 ?_
          refine lv_aload_n hx hb dX10_readTest_72 rfl (lv_at hl 1 rfl) ?_
          refine va_get (D := D) (ci := 10) (v := .ref hs) (C := RX10) (T := TX10) (N := 5) hx hb hts iX10 hown hK hP 0 rfl rfl 4 (bl rfl) (hts _ qf_X10_23) (fun _ h => h) rfl dX10_readTest_73 ?_
          refine lv_iconst (v := iZ (-1)) hx hb dX10_readTest_76 rfl ?_
          refine CWV (As := [.ref hs, .int (iZ (-1))]) (rest := []) (wc := _) (wr := [(hv, .inr (10, [.ref hr1, .ref oo, .int (iZ de), .ref hy, .ref hs])), (oo, .inl (k 1, 3, .inl of0)), (hy, .inr (9, [.ref yw, .ref y1, .ref y2, .ref y3, .ref yp, .int (iZ th), .int (iZ ys), .int (iZ yr)])), (yw, .inl (k 1, 60, .inl ywf)), (y1, .inl (k 1, 60, .inl f_81)), (y2, .inl (k 1, 60, .inl y2f)), (y3, .inl (k 1, 60, .inl y3f)), (yp, .inl (k 1, 60, .inl ypf))]) hx hb hml hown hts hKK hP hD hS hA (x_takeRock l D k ([.ref hN, .ref hf, .ref hg, .int (iZ n), .int (iZ ni), .int (iZ lw), .int (iZ we)]) hr1 tx kw hs hN tp ln u_75.1.2.1 u_75.1.2.2.1 u_75.1.2.2.2.1 u_75.1.2.2.2.2.1 u_75.1.2.2.2.2.2 fk fp u_75.2.1.2 bf kwf nf n (xEn (tX bf ln) cu) (-1) N rfl rfl (by first | with_reducible assumption | exact ⟨⟨by omega, by omega⟩, ⟨by omega, by omega⟩, ⟨by omega, by omega⟩, by omega, ⟨by omega, by omega⟩, ⟨by omega, by omega⟩, by omega, by omega⟩) hbf hkw rx_78 ⟨by omega, by omega⟩ ⟨by omega, by omega⟩ hns) ci_X4_takeRock qm_X10_89 ⟨Nat.le_of_ble_eq_true rfl, Nat.le_of_ble_eq_true rfl⟩ ⟨Nat.le_of_ble_eq_true rfl, Nat.le_of_ble_eq_true rfl⟩ [10, 11, 12, 8, 9] [0, 1, 2, 3, 4, 5, 6, 7] rfl rfl rfl rfl rfl (dj rfl) 0 rfl rfl rfl hl.1 rfl (Nat.le_of_ble_eq_true rfl) dX10_readTest_77 (fun u_95 H locs hφ hP hD hS => ?_)
          obtain ⟨p_96, p_97⟩ : ((0 ≤ tp ∧ tp ≤ 900) ∧ (0 ≤ ln ∧ ln ≤ 900) ∧ (0 ≤ u_95.1.2.1 ∧ u_95.1.2.1 ≤ u_95.1.2.2.1) ∧ (u_95.1.2.2.1 ≤ ln) ∧ (0 ≤ u_95.1.2.2.2.1 ∧ u_95.1.2.2.2.1 ≤ 4) ∧ (-2147483648 ≤ u_95.1.2.2.2.2.1 ∧ u_95.1.2.2.2.2.1 < 2147483648) ∧ (-1 ≤ u_95.1.2.2.2.2.2.1 ∧ u_95.1.2.2.2.2.2.1 ≤ 24)) ∧ ((¬ (u_95.1.1 : Int) = -1 ∧ ∃ q9 : Int, xTr (tX bf ln) N n (-1) (xEn (tX bf ln) cu) = .inr (q9, u_95.1.1) ∧ (xEn (tX bf ln) cu) < q9 ∧ RDX (tX bf ln) q9 u_95.1.2.1 u_95.1.2.2.1 u_95.1.2.2.2.1 u_95.1.2.2.2.2.1 u_95.1.2.2.2.2.2.1 u_95.2.1.2 ∧ (0 ≤ u_95.1.1 ∧ u_95.1.1 < n) ∧ u_95.1.2.2.2.2.2.2.1 = fk ∧ u_95.1.2.2.2.2.2.2.2 = fp) ∨ ((u_95.1.1 : Int) = -1 ∧ xTr (tX bf ln) N n (-1) (xEn (tX bf ln) cu) = .inl (u_95.1.2.2.2.2.2.2.1, u_95.1.2.2.2.2.2.2.2))) := hφ
          refine W.eq (g2 := F0 m 80 ls [.int (iZ u_95.1.1)]) rfl ?_
          rcases p_97 with ⟨qt_98, cut_98, st_98, lt_98, xt_98, rt_98, ut_98, vt_98⟩ | ⟨qt_98, st_98⟩
          ·
            obtain ⟨⟨ar_99, br_99⟩, cr_99, dr_99, er_99, fr_99, gr_99, hr_99⟩ := id xt_98
            refine lv_istore_n (lv' := [(3, .int (iZ u_95.1.1)), (2, .int (iZ ke)), (0, .ref hv), (1, .int (iZ a6))]) hx hb dX10_readTest_80 rfl hl (bl rfl) rfl (fun ls hl => ?_)
            refine lv_aload_n hx hb dX10_readTest_81 rfl (lv_at hl 2 rfl) ?_
            refine va_get (D := D) (ci := 10) (v := .ref hy) (C := RX10) (T := TX10) (N := 5) hx hb hts iX10 hown hK hP 0 rfl rfl 3 (bl rfl) (hts _ qf_X10_19) (fun _ h => h) rfl dX10_readTest_82 ?_
            refine va_get (D := D) (ci := 9) (v := .ref y2) (C := RX9) (T := TX9) (N := 8) hx hb hts iX9 hown hK hP 2 rfl rfl 2 (bl rfl) (hts _ qf_X10_93) (fun _ h => h) rfl dX10_readTest_85 ?_
            refine lv_iload_n hx hb dX10_readTest_88 rfl (lv_at hl 3 rfl) ?_
            refine lv_iload_n hx hb dX10_readTest_89 rfl (lv_at hl 0 rfl) ?_
            refine va_iast hx hb hK hP hD hS 5 1 rfl rfl (zin (e := a6) (n := 60) ⟨by omega, by omega⟩ (bl rfl)) dX10_readTest_90 (fun H locs hP hD hS => ?_)
            obtain ⟨f_100, hf_100⟩ : ∃ gg9, gg9 = upd y2f (iZ a6).toNatClampNeg (iZ u_95.1.1) := ⟨_, rfl⟩
            rw [← hf_100] at hP hD
            refine lv_iload_n hx hb dX10_readTest_91 rfl (lv_at hl 0 rfl) ?_
            refine lv_iconst (v := iZ (-1)) hx hb dX10_readTest_92 rfl ?_
            refine lv_icmp_eq (tgt := 102) hx hb dX10_readTest_93 rfl (fun c_101 => ?_) (fun c_101 => ?_)
            ·
              have c_101 := (zeq (x := iZ u_95.1.1) (y := iZ (-1)) rfl rfl ⟨by omega, by omega⟩ wn_m1).mp c_101
              exact absurd c_101 (by omega)
            ·
              have c_101 := mt (zeq (x := iZ u_95.1.1) (y := iZ (-1)) rfl rfl ⟨by omega, by omega⟩ wn_m1).mpr c_101
              refine lv_iload_n hx hb dX10_readTest_96 rfl (lv_at hl 1 rfl) ?_
              refine lv_bipush (v := iZ 7) hx hb dX10_readTest_97 bip_7 ?_
              refine lv_icmp_ne (tgt := 113) hx hb dX10_readTest_99 rfl (fun c_102 => ?_) (fun c_102 => ?_)
              ·
                have c_102 := mt (zeq (x := iZ ke) (y := iZ 7) rfl rfl ⟨by omega, by omega⟩ wn_7).mpr c_102
                refine lv_iload_n hx hb dX10_readTest_113 rfl (lv_at hl 1 rfl) ?_
                refine lv_bipush (v := iZ 20) hx hb dX10_readTest_114 bip_20 ?_
                refine lv_icmp_ne (tgt := 133) hx hb dX10_readTest_116 rfl (fun c_103 => ?_) (fun c_103 => ?_)
                ·
                  have c_103 := mt (zeq (x := iZ ke) (y := iZ 20) rfl rfl ⟨by omega, by omega⟩ wn_20).mpr c_103
                  exact absurd c_103 (by omega)
                ·
                  have c_103 := (zeq (x := iZ ke) (y := iZ 20) rfl rfl ⟨by omega, by omega⟩ wn_20).mp c_103
                  refine lv_aload_n hx hb dX10_readTest_119 rfl (lv_at hl 2 rfl) ?_
                  refine va_get (D := D) (ci := 10) (v := .ref hr1) (C := RX10) (T := TX10) (N := 5) hx hb hts iX10 hown hK hP 0 rfl rfl 0 (bl rfl) (hts _ qf_X10_15) (fun _ h => h) rfl dX10_readTest_120 ?_
                  refine lv_bipush (v := iZ 21) hx hb dX10_readTest_123 bip_21 ?_
                  refine CWV (As := [.int (iZ 21)]) (rest := []) (wc := _) (wr := [(hv, .inr (10, [.ref hr1, .ref oo, .int (iZ de), .ref hy, .ref hs])), (oo, .inl (k 1, 3, .inl of0)), (hy, .inr (9, [.ref yw, .ref y1, .ref y2, .ref y3, .ref yp, .int (iZ th), .int (iZ ys), .int (iZ yr)])), (yw, .inl (k 1, 60, .inl ywf)), (y1, .inl (k 1, 60, .inl f_81)), (y2, .inl (k 1, 60, .inl f_100)), (y3, .inl (k 1, 60, .inl y3f)), (yp, .inl (k 1, 60, .inl ypf)), (hs, .inr (5, [.ref hN, .ref hf, .ref hg, .int (iZ n), .int (iZ ni), .int (iZ lw), .int (iZ we)])), (hN, .inl (k 2, 6, .inr (.inl nf)))]) hx hb hml hown hts hKK hP hD hS hA (x_takeWord l D k hr1 tx kw tp ln u_95.1.2.1 u_95.1.2.2.1 u_95.1.2.2.2.1 u_95.1.2.2.2.2.1 u_95.1.2.2.2.2.2.1 u_95.1.2.2.2.2.2.2.1 u_95.1.2.2.2.2.2.2.2 u_95.2.1.2 bf kwf cut_98 21 (by first | with_reducible assumption | exact ⟨⟨by omega, by omega⟩, ⟨by omega, by omega⟩, ⟨by omega, by omega⟩, by omega, ⟨by omega, by omega⟩, ⟨by omega, by omega⟩, by omega, by omega⟩) hbf hkw xt_98 ⟨by omega, by omega⟩) ci_X4_takeWord qm_X10_103 ⟨Nat.le_of_ble_eq_true rfl, Nat.le_of_ble_eq_true rfl⟩ ⟨Nat.le_of_ble_eq_true rfl, Nat.le_of_ble_eq_true rfl⟩ [8, 9, 10] [0, 1, 2, 3, 4, 5, 6, 7, 11, 12] rfl rfl rfl rfl rfl (dj rfl) 0 rfl rfl rfl hl.1 rfl (Nat.le_of_ble_eq_true rfl) dX10_readTest_125 (fun u_104 H locs hφ hP hD hS => ?_)
                  obtain ⟨p_105, p_106⟩ : ((0 ≤ tp ∧ tp ≤ 900) ∧ (0 ≤ ln ∧ ln ≤ 900) ∧ (0 ≤ u_104.1.2.1 ∧ u_104.1.2.1 ≤ u_104.1.2.2.1) ∧ (u_104.1.2.2.1 ≤ ln) ∧ (0 ≤ u_104.1.2.2.2.1 ∧ u_104.1.2.2.2.1 ≤ 4) ∧ (-2147483648 ≤ u_104.1.2.2.2.2.1 ∧ u_104.1.2.2.2.2.1 < 2147483648) ∧ (-1 ≤ u_104.1.2.2.2.2.2.1 ∧ u_104.1.2.2.2.2.2.1 ≤ 24)) ∧ (((u_104.1.1 : Int) = 1 ∧ ∃ q9 : Int, xTw (tX bf ln) 21 cut_98 = .inr q9 ∧ cut_98 < q9 ∧ RDX (tX bf ln) q9 u_104.1.2.1 u_104.1.2.2.1 u_104.1.2.2.2.1 u_104.1.2.2.2.2.1 u_104.1.2.2.2.2.2.1 u_104.2.1.2 ∧ u_104.1.2.2.2.2.2.2.1 = u_95.1.2.2.2.2.2.2.1 ∧ u_104.1.2.2.2.2.2.2.2 = u_95.1.2.2.2.2.2.2.2) ∨ ((u_104.1.1 : Int) = 0 ∧ xTw (tX bf ln) 21 cut_98 = .inl (u_104.1.2.2.2.2.2.2.1, u_104.1.2.2.2.2.2.2.2))) := hφ
                  refine W.eq (g2 := F0 m 128 ls [.int (iZ u_104.1.1)]) rfl ?_
                  rcases p_106 with ⟨qt_107, cut_107, st_107, lt_107, xt_107, ut_107, vt_107⟩ | ⟨qt_107, st_107⟩
                  ·
                    rw [qt_107]
                    obtain ⟨⟨ar_108, br_108⟩, cr_108, dr_108, er_108, fr_108, gr_108, hr_108⟩ := id xt_107
                    refine lv_if_ne (tgt := 133) hx hb dX10_readTest_128 rfl (fun _ => ?_) (fun c => absurd c (by decide))
                    refine lv_iload_n hx hb dX10_readTest_133 rfl (lv_at hl 1 rfl) ?_
                    refine lv_bipush (v := iZ 15) hx hb dX10_readTest_134 bip_15 ?_
                    refine lv_icmp_ne (tgt := 153) hx hb dX10_readTest_136 rfl (fun c_110 => ?_) (fun c_110 => ?_)
                    ·
                      have c_110 := mt (zeq (x := iZ ke) (y := iZ 15) rfl rfl ⟨by omega, by omega⟩ wn_15).mpr c_110
                      refine lv_aload_n hx hb dX10_readTest_153 rfl (lv_at hl 2 rfl) ?_
                      refine va_get (D := D) (ci := 10) (v := .ref hr1) (C := RX10) (T := TX10) (N := 5) hx hb hts iX10 hown hK hP 0 rfl rfl 0 (bl rfl) (hts _ qf_X10_15) (fun _ h => h) rfl dX10_readTest_154 ?_
                      refine lv_aload_n hx hb dX10_readTest_157 rfl (lv_at hl 2 rfl) ?_
                      refine va_get (D := D) (ci := 10) (v := .ref hs) (C := RX10) (T := TX10) (N := 5) hx hb hts iX10 hown hK hP 0 rfl rfl 4 (bl rfl) (hts _ qf_X10_23) (fun _ h => h) rfl dX10_readTest_158 ?_
                      refine lv_iconst (v := iZ (-1)) hx hb dX10_readTest_161 rfl ?_
                      refine CWV (As := [.ref hs, .int (iZ (-1))]) (rest := []) (wc := _) (wr := [(hv, .inr (10, [.ref hr1, .ref oo, .int (iZ de), .ref hy, .ref hs])), (oo, .inl (k 1, 3, .inl of0)), (hy, .inr (9, [.ref yw, .ref y1, .ref y2, .ref y3, .ref yp, .int (iZ th), .int (iZ ys), .int (iZ yr)])), (yw, .inl (k 1, 60, .inl ywf)), (y1, .inl (k 1, 60, .inl f_81)), (y2, .inl (k 1, 60, .inl f_100)), (y3, .inl (k 1, 60, .inl y3f)), (yp, .inl (k 1, 60, .inl ypf))]) hx hb hml hown hts hKK hP hD hS hA (x_takeRock l D k ([.ref hN, .ref hf, .ref hg, .int (iZ n), .int (iZ ni), .int (iZ lw), .int (iZ we)]) hr1 tx kw hs hN tp ln u_104.1.2.1 u_104.1.2.2.1 u_104.1.2.2.2.1 u_104.1.2.2.2.2.1 u_104.1.2.2.2.2.2.1 u_104.1.2.2.2.2.2.2.1 u_104.1.2.2.2.2.2.2.2 u_104.2.1.2 bf kwf nf n cut_107 (-1) N rfl rfl (by first | with_reducible assumption | exact ⟨⟨by omega, by omega⟩, ⟨by omega, by omega⟩, ⟨by omega, by omega⟩, by omega, ⟨by omega, by omega⟩, ⟨by omega, by omega⟩, by omega, by omega⟩) hbf hkw xt_107 ⟨by omega, by omega⟩ ⟨by omega, by omega⟩ hns) ci_X4_takeRock qm_X10_89 ⟨Nat.le_of_ble_eq_true rfl, Nat.le_of_ble_eq_true rfl⟩ ⟨Nat.le_of_ble_eq_true rfl, Nat.le_of_ble_eq_true rfl⟩ [10, 11, 12, 8, 9] [0, 1, 2, 3, 4, 5, 6, 7] rfl rfl rfl rfl rfl (dj rfl) 0 rfl rfl rfl hl.1 rfl (Nat.le_of_ble_eq_true rfl) dX10_readTest_162 (fun u_111 H locs hφ hP hD hS => ?_)
                      obtain ⟨p_112, p_113⟩ : ((0 ≤ tp ∧ tp ≤ 900) ∧ (0 ≤ ln ∧ ln ≤ 900) ∧ (0 ≤ u_111.1.2.1 ∧ u_111.1.2.1 ≤ u_111.1.2.2.1) ∧ (u_111.1.2.2.1 ≤ ln) ∧ (0 ≤ u_111.1.2.2.2.1 ∧ u_111.1.2.2.2.1 ≤ 4) ∧ (-2147483648 ≤ u_111.1.2.2.2.2.1 ∧ u_111.1.2.2.2.2.1 < 2147483648) ∧ (-1 ≤ u_111.1.2.2.2.2.2.1 ∧ u_111.1.2.2.2.2.2.1 ≤ 24)) ∧ ((¬ (u_111.1.1 : Int) = -1 ∧ ∃ q9 : Int, xTr (tX bf ln) N n (-1) cut_107 = .inr (q9, u_111.1.1) ∧ cut_107 < q9 ∧ RDX (tX bf ln) q9 u_111.1.2.1 u_111.1.2.2.1 u_111.1.2.2.2.1 u_111.1.2.2.2.2.1 u_111.1.2.2.2.2.2.1 u_111.2.1.2 ∧ (0 ≤ u_111.1.1 ∧ u_111.1.1 < n) ∧ u_111.1.2.2.2.2.2.2.1 = u_104.1.2.2.2.2.2.2.1 ∧ u_111.1.2.2.2.2.2.2.2 = u_104.1.2.2.2.2.2.2.2) ∨ ((u_111.1.1 : Int) = -1 ∧ xTr (tX bf ln) N n (-1) cut_107 = .inl (u_111.1.2.2.2.2.2.2.1, u_111.1.2.2.2.2.2.2.2))) := hφ
                      refine W.eq (g2 := F0 m 165 ls [.int (iZ u_111.1.1)]) rfl ?_
                      rcases p_113 with ⟨qt_114, cut_114, st_114, lt_114, xt_114, rt_114, ut_114, vt_114⟩ | ⟨qt_114, st_114⟩
                      ·
                        obtain ⟨⟨ar_115, br_115⟩, cr_115, dr_115, er_115, fr_115, gr_115, hr_115⟩ := id xt_114
                        refine lv_istore (lv' := [(4, .int (iZ u_111.1.1)), (3, .int (iZ u_95.1.1)), (2, .int (iZ ke)), (0, .ref hv), (1, .int (iZ a6))]) hx hb dX10_readTest_165 hl (bl rfl) rfl (fun ls hl => ?_)
                        refine lv_aload_n hx hb dX10_readTest_167 rfl (lv_at hl 3 rfl) ?_
                        refine va_get (D := D) (ci := 10) (v := .ref hy) (C := RX10) (T := TX10) (N := 5) hx hb hts iX10 hown hK hP 0 rfl rfl 3 (bl rfl) (hts _ qf_X10_19) (fun _ h => h) rfl dX10_readTest_168 ?_
                        refine va_get (D := D) (ci := 9) (v := .ref y3) (C := RX9) (T := TX9) (N := 8) hx hb hts iX9 hown hK hP 2 rfl rfl 3 (bl rfl) (hts _ qf_X10_106) (fun _ h => h) rfl dX10_readTest_171 ?_
                        refine lv_iload_n hx hb dX10_readTest_174 rfl (lv_at hl 4 rfl) ?_
                        refine lv_iload hx hb dX10_readTest_175 (lv_at hl 0 rfl) ?_
                        refine va_iast hx hb hK hP hD hS 6 1 rfl rfl (zin (e := a6) (n := 60) ⟨by omega, by omega⟩ (bl rfl)) dX10_readTest_177 (fun H locs hP hD hS => ?_)
                        obtain ⟨f_116, hf_116⟩ : ∃ gg9, gg9 = upd y3f (iZ a6).toNatClampNeg (iZ u_111.1.1) := ⟨_, rfl⟩
                        rw [← hf_116] at hP hD
                        refine lv_iload hx hb dX10_readTest_178 (lv_at hl 0 rfl) ?_
                        refine lv_iconst (v := iZ (-1)) hx hb dX10_readTest_180 rfl ?_
                        refine lv_icmp_eq (tgt := 188) hx hb dX10_readTest_181 rfl (fun c_117 => ?_) (fun c_117 => ?_)
                        ·
                          have c_117 := (zeq (x := iZ u_111.1.1) (y := iZ (-1)) rfl rfl ⟨by omega, by omega⟩ wn_m1).mp c_117
                          exact absurd c_117 (by omega)
                        ·
                          have c_117 := mt (zeq (x := iZ u_111.1.1) (y := iZ (-1)) rfl rfl ⟨by omega, by omega⟩ wn_m1).mpr c_117
                          refine lv_iconst (v := iZ 1) hx hb dX10_readTest_184 rfl ?_
                          refine lv_goto (tgt := 189) hx hb dX10_readTest_185 rfl ?_
                          exact EWz hx hb hr hlocks hS ((1, u_111.1.2.1, u_111.1.2.2.1, u_111.1.2.2.2.1, u_111.1.2.2.2.2.1, u_111.1.2.2.2.2.2.1, u_111.1.2.2.2.2.2.2.1, u_111.1.2.2.2.2.2.2.2), (0, u_111.2.1.2), (f_81, f_100, f_116), ()) rfl rfl ⟨(show (0 ≤ tp ∧ tp ≤ 900) ∧ (0 ≤ ln ∧ ln ≤ 900) ∧ (0 ≤ u_111.1.2.1 ∧ u_111.1.2.1 ≤ u_111.1.2.2.1) ∧ (u_111.1.2.2.1 ≤ ln) ∧ (0 ≤ u_111.1.2.2.2.1 ∧ u_111.1.2.2.2.1 ≤ 4) ∧ (-2147483648 ≤ u_111.1.2.2.2.2.1 ∧ u_111.1.2.2.2.2.1 < 2147483648) ∧ (-1 ≤ u_111.1.2.2.2.2.2.1 ∧ u_111.1.2.2.2.2.2.1 ≤ 24) from (by first | with_reducible assumption | exact ⟨⟨by omega, by omega⟩, ⟨by omega, by omega⟩, ⟨by omega, by omega⟩, by omega, ⟨by omega, by omega⟩, ⟨by omega, by omega⟩, by omega, by omega⟩)), (show ((1 : Int) = 1 ∧ ∃ (q9 a9 b9 c9 : Int), xTe (tX bf ln) N n cu = .inr (q9, a9, b9, c9) ∧ cu ≤ q9 ∧ RDX (tX bf ln) q9 u_111.1.2.1 u_111.1.2.2.1 u_111.1.2.2.2.1 u_111.1.2.2.2.2.1 u_111.1.2.2.2.2.2.1 u_111.2.1.2 ∧ (YF f_81 y1f a6 a9 ∧ YF f_100 y2f a6 b9 ∧ YF f_116 y3f a6 c9) ∧ u_111.1.2.2.2.2.2.2.1 = fk ∧ u_111.1.2.2.2.2.2.2.2 = fp) ∨ ((1 : Int) = 0 ∧ xTe (tX bf ln) N n cu = .inl (u_111.1.2.2.2.2.2.2.1, u_111.1.2.2.2.2.2.2.2)) from (Or.inl ⟨rfl, _, _, _, _, xTe_20 (show xKw (tX bf ln) cu = 20 from (by omega)) st_98 st_107 st_114, by omega, xt_114, ⟨(Or.inr ⟨ke, by omega, hf_81⟩), (Or.inr ⟨u_95.1.1, by omega, hf_100⟩), (Or.inr ⟨u_111.1.1, by omega, hf_116⟩)⟩, by omega, by omega⟩))⟩ (hP.sub [0, 1, 8, 9, 10, 2, 3, 4, 5, 6, 7, 11, 12] rfl) (hD.sub [0, 1, 8, 9, 10, 2, 3, 4, 5, 6, 7, 11, 12] rfl rfl) dX10_readTest_189
                      ·
                        rw [qt_114]
                        refine lv_istore (lv' := [(4, .int (iZ (-1))), (3, .int (iZ u_95.1.1)), (2, .int (iZ ke)), (0, .ref hv), (1, .int (iZ a6))]) hx hb dX10_readTest_165 hl (bl rfl) rfl (fun ls hl => ?_)
                        refine lv_aload_n hx hb dX10_readTest_167 rfl (lv_at hl 3 rfl) ?_
                        refine va_get (D := D) (ci := 10) (v := .ref hy) (C := RX10) (T := TX10) (N := 5) hx hb hts iX10 hown hK hP 0 rfl rfl 3 (bl rfl) (hts _ qf_X10_19) (fun _ h => h) rfl dX10_readTest_168 ?_
                        refine va_get (D := D) (ci := 9) (v := .ref y3) (C := RX9) (T := TX9) (N := 8) hx hb hts iX9 hown hK hP 2 rfl rfl 3 (bl rfl) (hts _ qf_X10_106) (fun _ h => h) rfl dX10_readTest_171 ?_
                        refine lv_iload_n hx hb dX10_readTest_174 rfl (lv_at hl 4 rfl) ?_
                        refine lv_iload hx hb dX10_readTest_175 (lv_at hl 0 rfl) ?_
                        refine va_iast hx hb hK hP hD hS 6 1 rfl rfl (zin (e := a6) (n := 60) ⟨by omega, by omega⟩ (bl rfl)) dX10_readTest_177 (fun H locs hP hD hS => ?_)
                        obtain ⟨f_118, hf_118⟩ : ∃ gg9, gg9 = upd y3f (iZ a6).toNatClampNeg (iZ (-1)) := ⟨_, rfl⟩
                        rw [← hf_118] at hP hD
                        refine lv_iload hx hb dX10_readTest_178 (lv_at hl 0 rfl) ?_
                        refine lv_iconst (v := iZ (-1)) hx hb dX10_readTest_180 rfl ?_
                        refine lv_icmp_eq (tgt := 188) hx hb dX10_readTest_181 rfl (fun _ => ?_) (fun c => absurd (by decide) c)
                        refine lv_iconst (v := iZ 0) hx hb dX10_readTest_188 rfl ?_
                        exact EWz hx hb hr hlocks hS ((0, u_111.1.2.1, u_111.1.2.2.1, u_111.1.2.2.2.1, u_111.1.2.2.2.2.1, u_111.1.2.2.2.2.2.1, u_111.1.2.2.2.2.2.2.1, u_111.1.2.2.2.2.2.2.2), (0, u_111.2.1.2), (f_81, f_100, f_118), ()) rfl rfl ⟨(show (0 ≤ tp ∧ tp ≤ 900) ∧ (0 ≤ ln ∧ ln ≤ 900) ∧ (0 ≤ u_111.1.2.1 ∧ u_111.1.2.1 ≤ u_111.1.2.2.1) ∧ (u_111.1.2.2.1 ≤ ln) ∧ (0 ≤ u_111.1.2.2.2.1 ∧ u_111.1.2.2.2.1 ≤ 4) ∧ (-2147483648 ≤ u_111.1.2.2.2.2.1 ∧ u_111.1.2.2.2.2.1 < 2147483648) ∧ (-1 ≤ u_111.1.2.2.2.2.2.1 ∧ u_111.1.2.2.2.2.2.1 ≤ 24) from (by first | with_reducible assumption | exact ⟨⟨by omega, by omega⟩, ⟨by omega, by omega⟩, ⟨by omega, by omega⟩, by omega, ⟨by omega, by omega⟩, ⟨by omega, by omega⟩, by omega, by omega⟩)), (show ((0 : Int) = 1 ∧ ∃ (q9 a9 b9 c9 : Int), xTe (tX bf ln) N n cu = .inr (q9, a9, b9, c9) ∧ cu ≤ q9 ∧ RDX (tX bf ln) q9 u_111.1.2.1 u_111.1.2.2.1 u_111.1.2.2.2.1 u_111.1.2.2.2.2.1 u_111.1.2.2.2.2.2.1 u_111.2.1.2 ∧ (YF f_81 y1f a6 a9 ∧ YF f_100 y2f a6 b9 ∧ YF f_118 y3f a6 c9) ∧ u_111.1.2.2.2.2.2.2.1 = fk ∧ u_111.1.2.2.2.2.2.2.2 = fp) ∨ ((0 : Int) = 0 ∧ xTe (tX bf ln) N n cu = .inl (u_111.1.2.2.2.2.2.2.1, u_111.1.2.2.2.2.2.2.2)) from (Or.inr ⟨rfl, xTe_20c (show xKw (tX bf ln) cu = 20 from (by omega)) st_98 st_107 st_114⟩))⟩ (hP.sub [0, 1, 8, 9, 10, 2, 3, 4, 5, 6, 7, 11, 12] rfl) (hD.sub [0, 1, 8, 9, 10, 2, 3, 4, 5, 6, 7, 11, 12] rfl rfl) dX10_readTest_189
                    ·
                      have c_110 := (zeq (x := iZ ke) (y := iZ 15) rfl rfl ⟨by omega, by omega⟩ wn_15).mp c_110
                      exact absurd c_110 (by omega)
                  ·
                    rw [qt_107]
                    refine lv_if_ne (tgt := 133) hx hb dX10_readTest_128 rfl (fun c => absurd (by decide) c) (fun _ => ?_)
                    refine lv_iconst (v := iZ 0) hx hb dX10_readTest_131 rfl ?_
                    exact EWz hx hb hr hlocks hS ((0, u_104.1.2.1, u_104.1.2.2.1, u_104.1.2.2.2.1, u_104.1.2.2.2.2.1, u_104.1.2.2.2.2.2.1, u_104.1.2.2.2.2.2.2.1, u_104.1.2.2.2.2.2.2.2), (0, u_104.2.1.2), (f_81, f_100, y3f), ()) rfl rfl ⟨(show (0 ≤ tp ∧ tp ≤ 900) ∧ (0 ≤ ln ∧ ln ≤ 900) ∧ (0 ≤ u_104.1.2.1 ∧ u_104.1.2.1 ≤ u_104.1.2.2.1) ∧ (u_104.1.2.2.1 ≤ ln) ∧ (0 ≤ u_104.1.2.2.2.1 ∧ u_104.1.2.2.2.1 ≤ 4) ∧ (-2147483648 ≤ u_104.1.2.2.2.2.1 ∧ u_104.1.2.2.2.2.1 < 2147483648) ∧ (-1 ≤ u_104.1.2.2.2.2.2.1 ∧ u_104.1.2.2.2.2.2.1 ≤ 24) from (by first | with_reducible assumption | exact ⟨⟨by omega, by omega⟩, ⟨by omega, by omega⟩, ⟨by omega, by omega⟩, by omega, ⟨by omega, by omega⟩, ⟨by omega, by omega⟩, by omega, by omega⟩)), (show ((0 : Int) = 1 ∧ ∃ (q9 a9 b9 c9 : Int), xTe (tX bf ln) N n cu = .inr (q9, a9, b9, c9) ∧ cu ≤ q9 ∧ RDX (tX bf ln) q9 u_104.1.2.1 u_104.1.2.2.1 u_104.1.2.2.2.1 u_104.1.2.2.2.2.1 u_104.1.2.2.2.2.2.1 u_104.2.1.2 ∧ (YF f_81 y1f a6 a9 ∧ YF f_100 y2f a6 b9 ∧ YF y3f y3f a6 c9) ∧ u_104.1.2.2.2.2.2.2.1 = fk ∧ u_104.1.2.2.2.2.2.2.2 = fp) ∨ ((0 : Int) = 0 ∧ xTe (tX bf ln) N n cu = .inl (u_104.1.2.2.2.2.2.2.1, u_104.1.2.2.2.2.2.2.2)) from (Or.inr ⟨rfl, xTe_20b (show xKw (tX bf ln) cu = 20 from (by omega)) st_98 st_107⟩))⟩ (hP.sub [0, 1, 10, 11, 12, 2, 3, 4, 5, 6, 7, 8, 9] rfl) (hD.sub [0, 1, 10, 11, 12, 2, 3, 4, 5, 6, 7, 8, 9] rfl rfl) dX10_readTest_132
              ·
                have c_102 := (zeq (x := iZ ke) (y := iZ 7) rfl rfl ⟨by omega, by omega⟩ wn_7).mp c_102
                exact absurd c_102 (by omega)
          ·
            rw [qt_98]
            refine lv_istore_n (lv' := [(3, .int (iZ (-1))), (2, .int (iZ ke)), (0, .ref hv), (1, .int (iZ a6))]) hx hb dX10_readTest_80 rfl hl (bl rfl) rfl (fun ls hl => ?_)
            refine lv_aload_n hx hb dX10_readTest_81 rfl (lv_at hl 2 rfl) ?_
            refine va_get (D := D) (ci := 10) (v := .ref hy) (C := RX10) (T := TX10) (N := 5) hx hb hts iX10 hown hK hP 0 rfl rfl 3 (bl rfl) (hts _ qf_X10_19) (fun _ h => h) rfl dX10_readTest_82 ?_
            refine va_get (D := D) (ci := 9) (v := .ref y2) (C := RX9) (T := TX9) (N := 8) hx hb hts iX9 hown hK hP 2 rfl rfl 2 (bl rfl) (hts _ qf_X10_93) (fun _ h => h) rfl dX10_readTest_85 ?_
            refine lv_iload_n hx hb dX10_readTest_88 rfl (lv_at hl 3 rfl) ?_
            refine lv_iload_n hx hb dX10_readTest_89 rfl (lv_at hl 0 rfl) ?_
            refine va_iast hx hb hK hP hD hS 5 1 rfl rfl (zin (e := a6) (n := 60) ⟨by omega, by omega⟩ (bl rfl)) dX10_readTest_90 (fun H locs hP hD hS => ?_)
            obtain ⟨f_121, hf_121⟩ : ∃ gg9, gg9 = upd y2f (iZ a6).toNatClampNeg (iZ (-1)) := ⟨_, rfl⟩
            rw [← hf_121] at hP hD
            refine lv_iload_n hx hb dX10_readTest_91 rfl (lv_at hl 0 rfl) ?_
            refine lv_iconst (v := iZ (-1)) hx hb dX10_readTest_92 rfl ?_
            refine lv_icmp_eq (tgt := 102) hx hb dX10_readTest_93 rfl (fun _ => ?_) (fun c => absurd (by decide) c)
            refine lv_iload_n hx hb dX10_readTest_102 rfl (lv_at hl 0 rfl) ?_
            refine lv_iconst (v := iZ (-1)) hx hb dX10_readTest_103 rfl ?_
            refine lv_icmp_eq (tgt := 111) hx hb dX10_readTest_104 rfl (fun _ => ?_) (fun c => absurd (by decide) c)
            refine lv_iconst (v := iZ 0) hx hb dX10_readTest_111 rfl ?_
            exact EWz hx hb hr hlocks hS ((0, u_95.1.2.1, u_95.1.2.2.1, u_95.1.2.2.2.1, u_95.1.2.2.2.2.1, u_95.1.2.2.2.2.2.1, u_95.1.2.2.2.2.2.2.1, u_95.1.2.2.2.2.2.2.2), (0, u_95.2.1.2), (f_81, f_121, y3f), ()) rfl rfl ⟨(show (0 ≤ tp ∧ tp ≤ 900) ∧ (0 ≤ ln ∧ ln ≤ 900) ∧ (0 ≤ u_95.1.2.1 ∧ u_95.1.2.1 ≤ u_95.1.2.2.1) ∧ (u_95.1.2.2.1 ≤ ln) ∧ (0 ≤ u_95.1.2.2.2.1 ∧ u_95.1.2.2.2.1 ≤ 4) ∧ (-2147483648 ≤ u_95.1.2.2.2.2.1 ∧ u_95.1.2.2.2.2.1 < 2147483648) ∧ (-1 ≤ u_95.1.2.2.2.2.2.1 ∧ u_95.1.2.2.2.2.2.1 ≤ 24) from (by first | with_reducible assumption | exact ⟨⟨by omega, by omega⟩, ⟨by omega, by omega⟩, ⟨by omega, by omega⟩, by omega, ⟨by omega, by omega⟩, ⟨by omega, by omega⟩, by omega, by omega⟩)), (show ((0 : Int) = 1 ∧ ∃ (q9 a9 b9 c9 : Int), xTe (tX bf ln) N n cu = .inr (q9, a9, b9, c9) ∧ cu ≤ q9 ∧ RDX (tX bf ln) q9 u_95.1.2.1 u_95.1.2.2.1 u_95.1.2.2.2.1 u_95.1.2.2.2.2.1 u_95.1.2.2.2.2.2.1 u_95.2.1.2 ∧ (YF f_81 y1f a6 a9 ∧ YF f_121 y2f a6 b9 ∧ YF y3f y3f a6 c9) ∧ u_95.1.2.2.2.2.2.2.1 = fk ∧ u_95.1.2.2.2.2.2.2.2 = fp) ∨ ((0 : Int) = 0 ∧ xTe (tX bf ln) N n cu = .inl (u_95.1.2.2.2.2.2.2.1, u_95.1.2.2.2.2.2.2.2)) from (Or.inr ⟨rfl, xTe_20a (show xKw (tX bf ln) cu = 20 from (by omega)) st_98⟩))⟩ (hP.sub [0, 1, 8, 9, 10, 2, 3, 4, 5, 6, 7, 11, 12] rfl) (hD.sub [0, 1, 8, 9, 10, 2, 3, 4, 5, 6, 7, 11, 12] rfl rfl) dX10_readTest_112
      ·
        have c_82 := (zeq (x := iZ ke) (y := iZ 15) rfl rfl ⟨by omega, by omega⟩ wn_15).mp c_82
        refine lv_aload_n hx hb dX10_readTest_58 rfl (lv_at hl 1 rfl) ?_
        refine va_get (D := D) (ci := 10) (v := .ref hr1) (C := RX10) (T := TX10) (N := 5) hx hb hts iX10 hown hK hP 0 rfl rfl 0 (bl rfl) (hts _ qf_X10_15) (fun _ h => h) rfl dX10_readTest_59 ?_
        refine CWV (As := []) (rest := []) (wc := _) (wr := [(hv, .inr (10, [.ref hr1, .ref oo, .int (iZ de), .ref hy, .ref hs])), (oo, .inl (k 1, 3, .inl of0)), (hy, .inr (9, [.ref yw, .ref y1, .ref y2, .ref y3, .ref yp, .int (iZ th), .int (iZ ys), .int (iZ yr)])), (yw, .inl (k 1, 60, .inl ywf)), (y1, .inl (k 1, 60, .inl f_81)), (y2, .inl (k 1, 60, .inl y2f)), (y3, .inl (k 1, 60, .inl y3f)), (yp, .inl (k 1, 60, .inl ypf)), (hs, .inr (5, [.ref hN, .ref hf, .ref hg, .int (iZ n), .int (iZ ni), .int (iZ lw), .int (iZ we)])), (hN, .inl (k 2, 6, .inr (.inl nf)))]) hx hb hml hown hts hKK hP hD hS hA (x_takeCompares l D k hr1 tx kw tp ln u_75.1.2.1 u_75.1.2.2.1 u_75.1.2.2.2.1 u_75.1.2.2.2.2.1 u_75.1.2.2.2.2.2 fk fp u_75.2.1.2 bf kwf (xEn (tX bf ln) cu) (by first | with_reducible assumption | exact ⟨⟨by omega, by omega⟩, ⟨by omega, by omega⟩, ⟨by omega, by omega⟩, by omega, ⟨by omega, by omega⟩, ⟨by omega, by omega⟩, by omega, by omega⟩) hbf hkw rx_78) ci_X4_takeCompares qm_X10_99 ⟨Nat.le_of_ble_eq_true rfl, Nat.le_of_ble_eq_true rfl⟩ ⟨Nat.le_of_ble_eq_true rfl, Nat.le_of_ble_eq_true rfl⟩ [10, 11, 12] [0, 1, 2, 3, 4, 5, 6, 7, 8, 9] rfl rfl rfl rfl rfl (dj rfl) 0 rfl rfl rfl hl.1 rfl (Nat.le_of_ble_eq_true rfl) dX10_readTest_62 (fun u_124 H locs hφ hP hD hS => ?_)
        obtain ⟨p_125, p_126⟩ : ((0 ≤ tp ∧ tp ≤ 900) ∧ (0 ≤ ln ∧ ln ≤ 900) ∧ (0 ≤ u_124.1.2.1 ∧ u_124.1.2.1 ≤ u_124.1.2.2.1) ∧ (u_124.1.2.2.1 ≤ ln) ∧ (0 ≤ u_124.1.2.2.2.1 ∧ u_124.1.2.2.2.1 ≤ 4) ∧ (-2147483648 ≤ u_124.1.2.2.2.2.1 ∧ u_124.1.2.2.2.2.1 < 2147483648) ∧ (-1 ≤ u_124.1.2.2.2.2.2.1 ∧ u_124.1.2.2.2.2.2.1 ≤ 24)) ∧ ((¬ (u_124.1.1 : Int) = -1 ∧ ∃ q9 : Int, xTc (tX bf ln) (xEn (tX bf ln) cu) = .inr (q9, u_124.1.1) ∧ (xEn (tX bf ln) cu) < q9 ∧ RDX (tX bf ln) q9 u_124.1.2.1 u_124.1.2.2.1 u_124.1.2.2.2.1 u_124.1.2.2.2.2.1 u_124.1.2.2.2.2.2.1 u_124.2.1.2 ∧ (60 ≤ u_124.1.1 ∧ u_124.1.1 ≤ 62) ∧ u_124.1.2.2.2.2.2.2.1 = fk ∧ u_124.1.2.2.2.2.2.2.2 = fp) ∨ ((u_124.1.1 : Int) = -1 ∧ xTc (tX bf ln) (xEn (tX bf ln) cu) = .inl (u_124.1.2.2.2.2.2.2.1, u_124.1.2.2.2.2.2.2.2))) := hφ
        refine W.eq (g2 := F0 m 65 ls [.int (iZ u_124.1.1)]) rfl ?_
        rcases p_126 with ⟨qt_127, cut_127, st_127, lt_127, xt_127, rt_127, ut_127, vt_127⟩ | ⟨qt_127, st_127⟩
        ·
          obtain ⟨⟨ar_128, br_128⟩, cr_128, dr_128, er_128, fr_128, gr_128, hr_128⟩ := id xt_127
          refine lv_goto (tgt := 80) hx hb dX10_readTest_65 rfl ?_
          refine lv_istore_n (lv' := [(3, .int (iZ u_124.1.1)), (2, .int (iZ ke)), (0, .ref hv), (1, .int (iZ a6))]) hx hb dX10_readTest_80 rfl hl (bl rfl) rfl (fun ls hl => ?_)
          refine lv_aload_n hx hb dX10_readTest_81 rfl (lv_at hl 2 rfl) ?_
          refine va_get (D := D) (ci := 10) (v := .ref hy) (C := RX10) (T := TX10) (N := 5) hx hb hts iX10 hown hK hP 0 rfl rfl 3 (bl rfl) (hts _ qf_X10_19) (fun _ h => h) rfl dX10_readTest_82 ?_
          refine va_get (D := D) (ci := 9) (v := .ref y2) (C := RX9) (T := TX9) (N := 8) hx hb hts iX9 hown hK hP 2 rfl rfl 2 (bl rfl) (hts _ qf_X10_93) (fun _ h => h) rfl dX10_readTest_85 ?_
          refine lv_iload_n hx hb dX10_readTest_88 rfl (lv_at hl 3 rfl) ?_
          refine lv_iload_n hx hb dX10_readTest_89 rfl (lv_at hl 0 rfl) ?_
          refine va_iast hx hb hK hP hD hS 5 1 rfl rfl (zin (e := a6) (n := 60) ⟨by omega, by omega⟩ (bl rfl)) dX10_readTest_90 (fun H locs hP hD hS => ?_)
          obtain ⟨f_129, hf_129⟩ : ∃ gg9, gg9 = upd y2f (iZ a6).toNatClampNeg (iZ u_124.1.1) := ⟨_, rfl⟩
          rw [← hf_129] at hP hD
          refine lv_iload_n hx hb dX10_readTest_91 rfl (lv_at hl 0 rfl) ?_
          refine lv_iconst (v := iZ (-1)) hx hb dX10_readTest_92 rfl ?_
          refine lv_icmp_eq (tgt := 102) hx hb dX10_readTest_93 rfl (fun c_130 => ?_) (fun c_130 => ?_)
          ·
            have c_130 := (zeq (x := iZ u_124.1.1) (y := iZ (-1)) rfl rfl ⟨by omega, by omega⟩ wn_m1).mp c_130
            exact absurd c_130 (by omega)
          ·
            have c_130 := mt (zeq (x := iZ u_124.1.1) (y := iZ (-1)) rfl rfl ⟨by omega, by omega⟩ wn_m1).mpr c_130
            refine lv_iload_n hx hb dX10_readTest_96 rfl (lv_at hl 1 rfl) ?_
            refine lv_bipush (v := iZ 7) hx hb dX10_readTest_97 bip_7 ?_
            refine lv_icmp_ne (tgt := 113) hx hb dX10_readTest_99 rfl (fun c_131 => ?_) (fun c_131 => ?_)
            ·
              have c_131 := mt (zeq (x := iZ ke) (y := iZ 7) rfl rfl ⟨by omega, by omega⟩ wn_7).mpr c_131
              refine lv_iload_n hx hb dX10_readTest_113 rfl (lv_at hl 1 rfl) ?_
              refine lv_bipush (v := iZ 20) hx hb dX10_readTest_114 bip_20 ?_
              refine lv_icmp_ne (tgt := 133) hx hb dX10_readTest_116 rfl (fun c_132 => ?_) (fun c_132 => ?_)
              ·
                have c_132 := mt (zeq (x := iZ ke) (y := iZ 20) rfl rfl ⟨by omega, by omega⟩ wn_20).mpr c_132
                refine lv_iload_n hx hb dX10_readTest_133 rfl (lv_at hl 1 rfl) ?_
                refine lv_bipush (v := iZ 15) hx hb dX10_readTest_134 bip_15 ?_
                refine lv_icmp_ne (tgt := 153) hx hb dX10_readTest_136 rfl (fun c_133 => ?_) (fun c_133 => ?_)
                ·
                  have c_133 := mt (zeq (x := iZ ke) (y := iZ 15) rfl rfl ⟨by omega, by omega⟩ wn_15).mpr c_133
                  exact absurd c_133 (by omega)
                ·
                  have c_133 := (zeq (x := iZ ke) (y := iZ 15) rfl rfl ⟨by omega, by omega⟩ wn_15).mp c_133
                  refine lv_aload_n hx hb dX10_readTest_139 rfl (lv_at hl 2 rfl) ?_
                  refine va_get (D := D) (ci := 10) (v := .ref hr1) (C := RX10) (T := TX10) (N := 5) hx hb hts iX10 hown hK hP 0 rfl rfl 0 (bl rfl) (hts _ qf_X10_15) (fun _ h => h) rfl dX10_readTest_140 ?_
                  refine lv_iconst (v := iZ 0) hx hb dX10_readTest_143 rfl ?_
                  refine lv_sipush (v := iZ 400) hx hb dX10_readTest_144 sip_400 ?_
                  refine CWV (As := [.int (iZ 0), .int (iZ 400)]) (rest := []) (wc := _) (wr := [(hv, .inr (10, [.ref hr1, .ref oo, .int (iZ de), .ref hy, .ref hs])), (oo, .inl (k 1, 3, .inl of0)), (hy, .inr (9, [.ref yw, .ref y1, .ref y2, .ref y3, .ref yp, .int (iZ th), .int (iZ ys), .int (iZ yr)])), (yw, .inl (k 1, 60, .inl ywf)), (y1, .inl (k 1, 60, .inl f_81)), (y2, .inl (k 1, 60, .inl f_129)), (y3, .inl (k 1, 60, .inl y3f)), (yp, .inl (k 1, 60, .inl ypf)), (hs, .inr (5, [.ref hN, .ref hf, .ref hg, .int (iZ n), .int (iZ ni), .int (iZ lw), .int (iZ we)])), (hN, .inl (k 2, 6, .inr (.inl nf)))]) hx hb hml hown hts hKK hP hD hS hA (x_takeNumber l D k hr1 tx kw tp ln u_124.1.2.1 u_124.1.2.2.1 u_124.1.2.2.2.1 u_124.1.2.2.2.2.1 u_124.1.2.2.2.2.2.1 u_124.1.2.2.2.2.2.2.1 u_124.1.2.2.2.2.2.2.2 u_124.2.1.2 bf kwf cut_127 0 400 (by first | with_reducible assumption | exact ⟨⟨by omega, by omega⟩, ⟨by omega, by omega⟩, ⟨by omega, by omega⟩, by omega, ⟨by omega, by omega⟩, ⟨by omega, by omega⟩, by omega, by omega⟩) hbf hkw xt_127 ⟨by omega, by omega⟩ ⟨by omega, by omega⟩) ci_X4_takeNumber qm_X10_85 ⟨Nat.le_of_ble_eq_true rfl, Nat.le_of_ble_eq_true rfl⟩ ⟨Nat.le_of_ble_eq_true rfl, Nat.le_of_ble_eq_true rfl⟩ [10, 11, 12] [0, 1, 2, 3, 4, 5, 6, 7, 8, 9] rfl rfl rfl rfl rfl (dj rfl) 0 rfl rfl rfl hl.1 rfl (Nat.le_of_ble_eq_true rfl) dX10_readTest_147 (fun u_134 H locs hφ hP hD hS => ?_)
                  obtain ⟨p_135, p_136⟩ : ((0 ≤ tp ∧ tp ≤ 900) ∧ (0 ≤ ln ∧ ln ≤ 900) ∧ (0 ≤ u_134.1.2.1 ∧ u_134.1.2.1 ≤ u_134.1.2.2.1) ∧ (u_134.1.2.2.1 ≤ ln) ∧ (0 ≤ u_134.1.2.2.2.1 ∧ u_134.1.2.2.2.1 ≤ 4) ∧ (-2147483648 ≤ u_134.1.2.2.2.2.1 ∧ u_134.1.2.2.2.2.1 < 2147483648) ∧ (-1 ≤ u_134.1.2.2.2.2.2.1 ∧ u_134.1.2.2.2.2.2.1 ≤ 24)) ∧ ((¬ (u_134.1.1 : Int) = -1 ∧ ∃ q9 : Int, xTn (tX bf ln) 0 400 cut_127 = .inr (q9, u_134.1.1) ∧ cut_127 < q9 ∧ RDX (tX bf ln) q9 u_134.1.2.1 u_134.1.2.2.1 u_134.1.2.2.2.1 u_134.1.2.2.2.2.1 u_134.1.2.2.2.2.2.1 u_134.2.1.2 ∧ (0 ≤ u_134.1.1 ∧ u_134.1.1 ≤ 400) ∧ u_134.1.2.2.2.2.2.2.1 = u_124.1.2.2.2.2.2.2.1 ∧ u_134.1.2.2.2.2.2.2.2 = u_124.1.2.2.2.2.2.2.2) ∨ ((u_134.1.1 : Int) = -1 ∧ xTn (tX bf ln) 0 400 cut_127 = .inl (u_134.1.2.2.2.2.2.2.1, u_134.1.2.2.2.2.2.2.2))) := hφ
                  refine W.eq (g2 := F0 m 150 ls [.int (iZ u_134.1.1)]) rfl ?_
                  rcases p_136 with ⟨qt_137, cut_137, st_137, lt_137, xt_137, rt_137, ut_137, vt_137⟩ | ⟨qt_137, st_137⟩
                  ·
                    obtain ⟨⟨ar_138, br_138⟩, cr_138, dr_138, er_138, fr_138, gr_138, hr_138⟩ := id xt_137
                    refine lv_goto (tgt := 165) hx hb dX10_readTest_150 rfl ?_
                    refine lv_istore (lv' := [(4, .int (iZ u_134.1.1)), (3, .int (iZ u_124.1.1)), (2, .int (iZ ke)), (0, .ref hv), (1, .int (iZ a6))]) hx hb dX10_readTest_165 hl (bl rfl) rfl (fun ls hl => ?_)
                    refine lv_aload_n hx hb dX10_readTest_167 rfl (lv_at hl 3 rfl) ?_
                    refine va_get (D := D) (ci := 10) (v := .ref hy) (C := RX10) (T := TX10) (N := 5) hx hb hts iX10 hown hK hP 0 rfl rfl 3 (bl rfl) (hts _ qf_X10_19) (fun _ h => h) rfl dX10_readTest_168 ?_
                    refine va_get (D := D) (ci := 9) (v := .ref y3) (C := RX9) (T := TX9) (N := 8) hx hb hts iX9 hown hK hP 2 rfl rfl 3 (bl rfl) (hts _ qf_X10_106) (fun _ h => h) rfl dX10_readTest_171 ?_
                    refine lv_iload_n hx hb dX10_readTest_174 rfl (lv_at hl 4 rfl) ?_
                    refine lv_iload hx hb dX10_readTest_175 (lv_at hl 0 rfl) ?_
                    refine va_iast hx hb hK hP hD hS 6 1 rfl rfl (zin (e := a6) (n := 60) ⟨by omega, by omega⟩ (bl rfl)) dX10_readTest_177 (fun H locs hP hD hS => ?_)
                    obtain ⟨f_139, hf_139⟩ : ∃ gg9, gg9 = upd y3f (iZ a6).toNatClampNeg (iZ u_134.1.1) := ⟨_, rfl⟩
                    rw [← hf_139] at hP hD
                    refine lv_iload hx hb dX10_readTest_178 (lv_at hl 0 rfl) ?_
                    refine lv_iconst (v := iZ (-1)) hx hb dX10_readTest_180 rfl ?_
                    refine lv_icmp_eq (tgt := 188) hx hb dX10_readTest_181 rfl (fun c_140 => ?_) (fun c_140 => ?_)
                    ·
                      have c_140 := (zeq (x := iZ u_134.1.1) (y := iZ (-1)) rfl rfl ⟨by omega, by omega⟩ wn_m1).mp c_140
                      exact absurd c_140 (by omega)
                    ·
                      have c_140 := mt (zeq (x := iZ u_134.1.1) (y := iZ (-1)) rfl rfl ⟨by omega, by omega⟩ wn_m1).mpr c_140
                      refine lv_iconst (v := iZ 1) hx hb dX10_readTest_184 rfl ?_
                      refine lv_goto (tgt := 189) hx hb dX10_readTest_185 rfl ?_
                      exact EWz hx hb hr hlocks hS ((1, u_134.1.2.1, u_134.1.2.2.1, u_134.1.2.2.2.1, u_134.1.2.2.2.2.1, u_134.1.2.2.2.2.2.1, u_134.1.2.2.2.2.2.2.1, u_134.1.2.2.2.2.2.2.2), (0, u_134.2.1.2), (f_81, f_129, f_139), ()) rfl rfl ⟨(show (0 ≤ tp ∧ tp ≤ 900) ∧ (0 ≤ ln ∧ ln ≤ 900) ∧ (0 ≤ u_134.1.2.1 ∧ u_134.1.2.1 ≤ u_134.1.2.2.1) ∧ (u_134.1.2.2.1 ≤ ln) ∧ (0 ≤ u_134.1.2.2.2.1 ∧ u_134.1.2.2.2.1 ≤ 4) ∧ (-2147483648 ≤ u_134.1.2.2.2.2.1 ∧ u_134.1.2.2.2.2.1 < 2147483648) ∧ (-1 ≤ u_134.1.2.2.2.2.2.1 ∧ u_134.1.2.2.2.2.2.1 ≤ 24) from (by first | with_reducible assumption | exact ⟨⟨by omega, by omega⟩, ⟨by omega, by omega⟩, ⟨by omega, by omega⟩, by omega, ⟨by omega, by omega⟩, ⟨by omega, by omega⟩, by omega, by omega⟩)), (show ((1 : Int) = 1 ∧ ∃ (q9 a9 b9 c9 : Int), xTe (tX bf ln) N n cu = .inr (q9, a9, b9, c9) ∧ cu ≤ q9 ∧ RDX (tX bf ln) q9 u_134.1.2.1 u_134.1.2.2.1 u_134.1.2.2.2.1 u_134.1.2.2.2.2.1 u_134.1.2.2.2.2.2.1 u_134.2.1.2 ∧ (YF f_81 y1f a6 a9 ∧ YF f_129 y2f a6 b9 ∧ YF f_139 y3f a6 c9) ∧ u_134.1.2.2.2.2.2.2.1 = fk ∧ u_134.1.2.2.2.2.2.2.2 = fp) ∨ ((1 : Int) = 0 ∧ xTe (tX bf ln) N n cu = .inl (u_134.1.2.2.2.2.2.2.1, u_134.1.2.2.2.2.2.2.2)) from (Or.inl ⟨rfl, _, _, _, _, xTe_15 (show xKw (tX bf ln) cu = 15 from (by omega)) st_127 st_137, by omega, xt_137, ⟨(Or.inr ⟨ke, by omega, hf_81⟩), (Or.inr ⟨u_124.1.1, by omega, hf_129⟩), (Or.inr ⟨u_134.1.1, by omega, hf_139⟩)⟩, by omega, by omega⟩))⟩ (hP.sub [0, 1, 10, 11, 12, 2, 3, 4, 5, 6, 7, 8, 9] rfl) (hD.sub [0, 1, 10, 11, 12, 2, 3, 4, 5, 6, 7, 8, 9] rfl rfl) dX10_readTest_189
                  ·
                    rw [qt_137]
                    refine lv_goto (tgt := 165) hx hb dX10_readTest_150 rfl ?_
                    refine lv_istore (lv' := [(4, .int (iZ (-1))), (3, .int (iZ u_124.1.1)), (2, .int (iZ ke)), (0, .ref hv), (1, .int (iZ a6))]) hx hb dX10_readTest_165 hl (bl rfl) rfl (fun ls hl => ?_)
                    refine lv_aload_n hx hb dX10_readTest_167 rfl (lv_at hl 3 rfl) ?_
                    refine va_get (D := D) (ci := 10) (v := .ref hy) (C := RX10) (T := TX10) (N := 5) hx hb hts iX10 hown hK hP 0 rfl rfl 3 (bl rfl) (hts _ qf_X10_19) (fun _ h => h) rfl dX10_readTest_168 ?_
                    refine va_get (D := D) (ci := 9) (v := .ref y3) (C := RX9) (T := TX9) (N := 8) hx hb hts iX9 hown hK hP 2 rfl rfl 3 (bl rfl) (hts _ qf_X10_106) (fun _ h => h) rfl dX10_readTest_171 ?_
                    refine lv_iload_n hx hb dX10_readTest_174 rfl (lv_at hl 4 rfl) ?_
                    refine lv_iload hx hb dX10_readTest_175 (lv_at hl 0 rfl) ?_
                    refine va_iast hx hb hK hP hD hS 6 1 rfl rfl (zin (e := a6) (n := 60) ⟨by omega, by omega⟩ (bl rfl)) dX10_readTest_177 (fun H locs hP hD hS => ?_)
                    obtain ⟨f_141, hf_141⟩ : ∃ gg9, gg9 = upd y3f (iZ a6).toNatClampNeg (iZ (-1)) := ⟨_, rfl⟩
                    rw [← hf_141] at hP hD
                    refine lv_iload hx hb dX10_readTest_178 (lv_at hl 0 rfl) ?_
                    refine lv_iconst (v := iZ (-1)) hx hb dX10_readTest_180 rfl ?_
                    refine lv_icmp_eq (tgt := 188) hx hb dX10_readTest_181 rfl (fun _ => ?_) (fun c => absurd (by decide) c)
                    refine lv_iconst (v := iZ 0) hx hb dX10_readTest_188 rfl ?_
                    exact EWz hx hb hr hlocks hS ((0, u_134.1.2.1, u_134.1.2.2.1, u_134.1.2.2.2.1, u_134.1.2.2.2.2.1, u_134.1.2.2.2.2.2.1, u_134.1.2.2.2.2.2.2.1, u_134.1.2.2.2.2.2.2.2), (0, u_134.2.1.2), (f_81, f_129, f_141), ()) rfl rfl ⟨(show (0 ≤ tp ∧ tp ≤ 900) ∧ (0 ≤ ln ∧ ln ≤ 900) ∧ (0 ≤ u_134.1.2.1 ∧ u_134.1.2.1 ≤ u_134.1.2.2.1) ∧ (u_134.1.2.2.1 ≤ ln) ∧ (0 ≤ u_134.1.2.2.2.1 ∧ u_134.1.2.2.2.1 ≤ 4) ∧ (-2147483648 ≤ u_134.1.2.2.2.2.1 ∧ u_134.1.2.2.2.2.1 < 2147483648) ∧ (-1 ≤ u_134.1.2.2.2.2.2.1 ∧ u_134.1.2.2.2.2.2.1 ≤ 24) from (by first | with_reducible assumption | exact ⟨⟨by omega, by omega⟩, ⟨by omega, by omega⟩, ⟨by omega, by omega⟩, by omega, ⟨by omega, by omega⟩, ⟨by omega, by omega⟩, by omega, by omega⟩)), (show ((0 : Int) = 1 ∧ ∃ (q9 a9 b9 c9 : Int), xTe (tX bf ln) N n cu = .inr (q9, a9, b9, c9) ∧ cu ≤ q9 ∧ RDX (tX bf ln) q9 u_134.1.2.1 u_134.1.2.2.1 u_134.1.2.2.2.1 u_134.1.2.2.2.2.1 u_134.1.2.2.2.2.2.1 u_134.2.1.2 ∧ (YF f_81 y1f a6 a9 ∧ YF f_129 y2f a6 b9 ∧ YF f_141 y3f a6 c9) ∧ u_134.1.2.2.2.2.2.2.1 = fk ∧ u_134.1.2.2.2.2.2.2.2 = fp) ∨ ((0 : Int) = 0 ∧ xTe (tX bf ln) N n cu = .inl (u_134.1.2.2.2.2.2.2.1, u_134.1.2.2.2.2.2.2.2)) from (Or.inr ⟨rfl, xTe_15b (show xKw (tX bf ln) cu = 15 from (by omega)) st_127 st_137⟩))⟩ (hP.sub [0, 1, 10, 11, 12, 2, 3, 4, 5, 6, 7, 8, 9] rfl) (hD.sub [0, 1, 10, 11, 12, 2, 3, 4, 5, 6, 7, 8, 9] rfl rfl) dX10_readTest_189
              ·
                have c_132 := (zeq (x := iZ ke) (y := iZ 20) rfl rfl ⟨by omega, by omega⟩ wn_20).mp c_132
                exact absurd c_132 (by omega)
            ·
              have c_131 := (zeq (x := iZ ke) (y := iZ 7) rfl rfl ⟨by omega, by omega⟩ wn_7).mp c_131
              exact absurd c_131 (by omega)
        ·
          rw [qt_127]
          refine lv_goto (tgt := 80) hx hb dX10_readTest_65 rfl ?_
          refine lv_istore_n (lv' := [(3, .int (iZ (-1))), (2, .int (iZ ke)), (0, .ref hv), (1, .int (iZ a6))]) hx hb dX10_readTest_80 rfl hl (bl rfl) rfl (fun ls hl => ?_)
          refine lv_aload_n hx hb dX10_readTest_81 rfl (lv_at hl 2 rfl) ?_
          refine va_get (D := D) (ci := 10) (v := .ref hy) (C := RX10) (T := TX10) (N := 5) hx hb hts iX10 hown hK hP 0 rfl rfl 3 (bl rfl) (hts _ qf_X10_19) (fun _ h => h) rfl dX10_readTest_82 ?_
          refine va_get (D := D) (ci := 9) (v := .ref y2) (C := RX9) (T := TX9) (N := 8) hx hb hts iX9 hown hK hP 2 rfl rfl 2 (bl rfl) (hts _ qf_X10_93) (fun _ h => h) rfl dX10_readTest_85 ?_
          refine lv_iload_n hx hb dX10_readTest_88 rfl (lv_at hl 3 rfl) ?_
          refine lv_iload_n hx hb dX10_readTest_89 rfl (lv_at hl 0 rfl) ?_
          refine va_iast hx hb hK hP hD hS 5 1 rfl rfl (zin (e := a6) (n := 60) ⟨by omega, by omega⟩ (bl rfl)) dX10_readTest_90 (fun H locs hP hD hS => ?_)
          obtain ⟨f_143, hf_143⟩ : ∃ gg9, gg9 = upd y2f (iZ a6).toNatClampNeg (iZ (-1)) := ⟨_, rfl⟩
          rw [← hf_143] at hP hD
          refine lv_iload_n hx hb dX10_readTest_91 rfl (lv_at hl 0 rfl) ?_
          refine lv_iconst (v := iZ (-1)) hx hb dX10_readTest_92 rfl ?_
          refine lv_icmp_eq (tgt := 102) hx hb dX10_readTest_93 rfl (fun _ => ?_) (fun c => absurd (by decide) c)
          refine lv_iload_n hx hb dX10_readTest_102 rfl (lv_at hl 0 rfl) ?_
          refine lv_iconst (v := iZ (-1)) hx hb dX10_readTest_103 rfl ?_
          refine lv_icmp_eq (tgt := 111) hx hb dX10_readTest_104 rfl (fun _ => ?_) (fun c => absurd (by decide) c)
          refine lv_iconst (v := iZ 0) hx hb dX10_readTest_111 rfl ?_
          exact EWz hx hb hr hlocks hS ((0, u_124.1.2.1, u_124.1.2.2.1, u_124.1.2.2.2.1, u_124.1.2.2.2.2.1, u_124.1.2.2.2.2.2.1, u_124.1.2.2.2.2.2.2.1, u_124.1.2.2.2.2.2.2.2), (0, u_124.2.1.2), (f_81, f_143, y3f), ()) rfl rfl ⟨(show (0 ≤ tp ∧ tp ≤ 900) ∧ (0 ≤ ln ∧ ln ≤ 900) ∧ (0 ≤ u_124.1.2.1 ∧ u_124.1.2.1 ≤ u_124.1.2.2.1) ∧ (u_124.1.2.2.1 ≤ ln) ∧ (0 ≤ u_124.1.2.2.2.1 ∧ u_124.1.2.2.2.1 ≤ 4) ∧ (-2147483648 ≤ u_124.1.2.2.2.2.1 ∧ u_124.1.2.2.2.2.1 < 2147483648) ∧ (-1 ≤ u_124.1.2.2.2.2.2.1 ∧ u_124.1.2.2.2.2.2.1 ≤ 24) from (by first | with_reducible assumption | exact ⟨⟨by omega, by omega⟩, ⟨by omega, by omega⟩, ⟨by omega, by omega⟩, by omega, ⟨by omega, by omega⟩, ⟨by omega, by omega⟩, by omega, by omega⟩)), (show ((0 : Int) = 1 ∧ ∃ (q9 a9 b9 c9 : Int), xTe (tX bf ln) N n cu = .inr (q9, a9, b9, c9) ∧ cu ≤ q9 ∧ RDX (tX bf ln) q9 u_124.1.2.1 u_124.1.2.2.1 u_124.1.2.2.2.1 u_124.1.2.2.2.2.1 u_124.1.2.2.2.2.2.1 u_124.2.1.2 ∧ (YF f_81 y1f a6 a9 ∧ YF f_143 y2f a6 b9 ∧ YF y3f y3f a6 c9) ∧ u_124.1.2.2.2.2.2.2.1 = fk ∧ u_124.1.2.2.2.2.2.2.2 = fp) ∨ ((0 : Int) = 0 ∧ xTe (tX bf ln) N n cu = .inl (u_124.1.2.2.2.2.2.2.1, u_124.1.2.2.2.2.2.2.2)) from (Or.inr ⟨rfl, xTe_15a (show xKw (tX bf ln) cu = 15 from (by omega)) st_127⟩))⟩ (hP.sub [0, 1, 10, 11, 12, 2, 3, 4, 5, 6, 7, 8, 9] rfl) (hD.sub [0, 1, 10, 11, 12, 2, 3, 4, 5, 6, 7, 8, 9] rfl rfl) dX10_readTest_112
    ·
      have c_74 := mt (zeq (x := iZ ke) (y := iZ 7) rfl rfl ⟨by omega, by omega⟩ wn_7).mpr c_74
      refine lv_iload_n hx hb dX10_readTest_20 rfl (lv_at hl 0 rfl) ?_
      refine lv_bipush (v := iZ 20) hx hb dX10_readTest_21 bip_20 ?_
      refine lv_icmp_eq (tgt := 35) hx hb dX10_readTest_23 rfl (fun c_146 => ?_) (fun c_146 => ?_)
      ·
        have c_146 := (zeq (x := iZ ke) (y := iZ 20) rfl rfl ⟨by omega, by omega⟩ wn_20).mp c_146
        refine lv_aload_n hx hb dX10_readTest_35 rfl (lv_at hl 1 rfl) ?_
        refine va_get (D := D) (ci := 10) (v := .ref hr1) (C := RX10) (T := TX10) (N := 5) hx hb hts iX10 hown hK hP 0 rfl rfl 0 (bl rfl) (hts _ qf_X10_15) (fun _ h => h) rfl dX10_readTest_36 ?_
        refine CWV (As := []) (rest := []) (wc := _) (wr := [(hv, .inr (10, [.ref hr1, .ref oo, .int (iZ de), .ref hy, .ref hs])), (oo, .inl (k 1, 3, .inl of0)), (hy, .inr (9, [.ref yw, .ref y1, .ref y2, .ref y3, .ref yp, .int (iZ th), .int (iZ ys), .int (iZ yr)])), (yw, .inl (k 1, 60, .inl ywf)), (y1, .inl (k 1, 60, .inl y1f)), (y2, .inl (k 1, 60, .inl y2f)), (y3, .inl (k 1, 60, .inl y3f)), (yp, .inl (k 1, 60, .inl ypf)), (hs, .inr (5, [.ref hN, .ref hf, .ref hg, .int (iZ n), .int (iZ ni), .int (iZ lw), .int (iZ we)])), (hN, .inl (k 2, 6, .inr (.inl nf)))]) hx hb hml hown hts hKK hP hD hS hA (x_next l D k hr1 tx kw tp ln pl en ki va ke fk fp nm bf kwf ⟨⟨by omega, by omega⟩, ⟨by omega, by omega⟩, by omega, by omega⟩ hbf hkw) ci_X4_next qm_X10_59 ⟨Nat.le_of_ble_eq_true rfl, Nat.le_of_ble_eq_true rfl⟩ ⟨Nat.le_of_ble_eq_true rfl, Nat.le_of_ble_eq_true rfl⟩ [2, 3, 4] [0, 1, 5, 6, 7, 8, 9, 10, 11, 12] rfl rfl rfl rfl rfl (dj rfl) 0 rfl rfl rfl hl.1 rfl (Nat.le_of_ble_eq_true rfl) dX10_readTest_39 (fun u_147 H locs hφ hP hD hS => ?_)
        obtain ⟨p_148, p_149⟩ : (RDX (tX bf ln) en u_147.1.2.1 u_147.1.2.2.1 u_147.1.2.2.2.1 u_147.1.2.2.2.2.1 u_147.1.2.2.2.2.2 u_147.2.1.2) ∧ ((0 ≤ tp ∧ tp ≤ 900) ∧ (0 ≤ ln ∧ ln ≤ 900) ∧ (0 ≤ u_147.1.2.1 ∧ u_147.1.2.1 ≤ u_147.1.2.2.1) ∧ (u_147.1.2.2.1 ≤ ln) ∧ (0 ≤ u_147.1.2.2.2.1 ∧ u_147.1.2.2.2.1 ≤ 4) ∧ (-2147483648 ≤ u_147.1.2.2.2.2.1 ∧ u_147.1.2.2.2.2.1 < 2147483648) ∧ (-1 ≤ u_147.1.2.2.2.2.2 ∧ u_147.1.2.2.2.2.2 ≤ 24)) := hφ
        have rx_150 := RDX.nx hrx p_148
        obtain ⟨⟨ar_151, br_151⟩, cr_151, dr_151, er_151, fr_151, gr_151, hr_151⟩ := id rx_150
        obtain ⟨t1u_152, t2u_152, t3u_152, t4u_152, t5u_152, t6u_152, t7u_152⟩ := id p_149
        refine W.eq (g2 := F0 m 42 ls []) rfl ?_
        refine lv_aload_n hx hb dX10_readTest_42 rfl (lv_at hl 1 rfl) ?_
        refine va_get (D := D) (ci := 10) (v := .ref hy) (C := RX10) (T := TX10) (N := 5) hx hb hts iX10 hown hK hP 0 rfl rfl 3 (bl rfl) (hts _ qf_X10_19) (fun _ h => h) rfl dX10_readTest_43 ?_
        refine va_get (D := D) (ci := 9) (v := .ref y1) (C := RX9) (T := TX9) (N := 8) hx hb hts iX9 hown hK hP 2 rfl rfl 1 (bl rfl) (hts _ qf_X10_82) (fun _ h => h) rfl dX10_readTest_46 ?_
        refine lv_iload_n hx hb dX10_readTest_49 rfl (lv_at hl 2 rfl) ?_
        refine lv_iload_n hx hb dX10_readTest_50 rfl (lv_at hl 0 rfl) ?_
        refine va_iast hx hb hK hP hD hS 4 1 rfl rfl (zin (e := a6) (n := 60) ⟨by omega, by omega⟩ (bl rfl)) dX10_readTest_51 (fun H locs hP hD hS => ?_)
        obtain ⟨f_153, hf_153⟩ : ∃ gg9, gg9 = upd y1f (iZ a6).toNatClampNeg (iZ ke) := ⟨_, rfl⟩
        rw [← hf_153] at hP hD
        refine lv_iload_n hx hb dX10_readTest_52 rfl (lv_at hl 0 rfl) ?_
        refine lv_bipush (v := iZ 15) hx hb dX10_readTest_53 bip_15 ?_
        refine lv_icmp_ne (tgt := 68) hx hb dX10_readTest_55 rfl (fun c_154 => ?_) (fun c_154 => ?_)
        ·
          have c_154 := mt (zeq (x := iZ ke) (y := iZ 15) rfl rfl ⟨by omega, by omega⟩ wn_15).mpr c_154
          rcases (show ke = 7 ∨ ke = 20 from (by omega)) with hkd | hkd
          ·
            refine lv_aload_n hx hb dX10_readTest_68 rfl (lv_at hl 1 rfl) ?_
            refine va_get (D := D) (ci := 10) (v := .ref hr1) (C := RX10) (T := TX10) (N := 5) hx hb hts iX10 hown hK hP 0 rfl rfl 0 (bl rfl) (hts _ qf_X10_15) (fun _ h => h) rfl dX10_readTest_69 ?_
            refine lv_aload_n hx hb dX10_readTest_72 rfl (lv_at hl 1 rfl) ?_
            refine va_get (D := D) (ci := 10) (v := .ref hs) (C := RX10) (T := TX10) (N := 5) hx hb hts iX10 hown hK hP 0 rfl rfl 4 (bl rfl) (hts _ qf_X10_23) (fun _ h => h) rfl dX10_readTest_73 ?_
            refine lv_iconst (v := iZ (-1)) hx hb dX10_readTest_76 rfl ?_
            refine CWV (As := [.ref hs, .int (iZ (-1))]) (rest := []) (wc := _) (wr := [(hv, .inr (10, [.ref hr1, .ref oo, .int (iZ de), .ref hy, .ref hs])), (oo, .inl (k 1, 3, .inl of0)), (hy, .inr (9, [.ref yw, .ref y1, .ref y2, .ref y3, .ref yp, .int (iZ th), .int (iZ ys), .int (iZ yr)])), (yw, .inl (k 1, 60, .inl ywf)), (y1, .inl (k 1, 60, .inl f_153)), (y2, .inl (k 1, 60, .inl y2f)), (y3, .inl (k 1, 60, .inl y3f)), (yp, .inl (k 1, 60, .inl ypf))]) hx hb hml hown hts hKK hP hD hS hA (x_takeRock l D k ([.ref hN, .ref hf, .ref hg, .int (iZ n), .int (iZ ni), .int (iZ lw), .int (iZ we)]) hr1 tx kw hs hN tp ln u_147.1.2.1 u_147.1.2.2.1 u_147.1.2.2.2.1 u_147.1.2.2.2.2.1 u_147.1.2.2.2.2.2 fk fp u_147.2.1.2 bf kwf nf n (xEn (tX bf ln) cu) (-1) N rfl rfl (by first | with_reducible assumption | exact ⟨⟨by omega, by omega⟩, ⟨by omega, by omega⟩, ⟨by omega, by omega⟩, by omega, ⟨by omega, by omega⟩, ⟨by omega, by omega⟩, by omega, by omega⟩) hbf hkw rx_150 ⟨by omega, by omega⟩ ⟨by omega, by omega⟩ hns) ci_X4_takeRock qm_X10_89 ⟨Nat.le_of_ble_eq_true rfl, Nat.le_of_ble_eq_true rfl⟩ ⟨Nat.le_of_ble_eq_true rfl, Nat.le_of_ble_eq_true rfl⟩ [10, 11, 12, 8, 9] [0, 1, 2, 3, 4, 5, 6, 7] rfl rfl rfl rfl rfl (dj rfl) 0 rfl rfl rfl hl.1 rfl (Nat.le_of_ble_eq_true rfl) dX10_readTest_77 (fun u_155 H locs hφ hP hD hS => ?_)
            obtain ⟨p_156, p_157⟩ : ((0 ≤ tp ∧ tp ≤ 900) ∧ (0 ≤ ln ∧ ln ≤ 900) ∧ (0 ≤ u_155.1.2.1 ∧ u_155.1.2.1 ≤ u_155.1.2.2.1) ∧ (u_155.1.2.2.1 ≤ ln) ∧ (0 ≤ u_155.1.2.2.2.1 ∧ u_155.1.2.2.2.1 ≤ 4) ∧ (-2147483648 ≤ u_155.1.2.2.2.2.1 ∧ u_155.1.2.2.2.2.1 < 2147483648) ∧ (-1 ≤ u_155.1.2.2.2.2.2.1 ∧ u_155.1.2.2.2.2.2.1 ≤ 24)) ∧ ((¬ (u_155.1.1 : Int) = -1 ∧ ∃ q9 : Int, xTr (tX bf ln) N n (-1) (xEn (tX bf ln) cu) = .inr (q9, u_155.1.1) ∧ (xEn (tX bf ln) cu) < q9 ∧ RDX (tX bf ln) q9 u_155.1.2.1 u_155.1.2.2.1 u_155.1.2.2.2.1 u_155.1.2.2.2.2.1 u_155.1.2.2.2.2.2.1 u_155.2.1.2 ∧ (0 ≤ u_155.1.1 ∧ u_155.1.1 < n) ∧ u_155.1.2.2.2.2.2.2.1 = fk ∧ u_155.1.2.2.2.2.2.2.2 = fp) ∨ ((u_155.1.1 : Int) = -1 ∧ xTr (tX bf ln) N n (-1) (xEn (tX bf ln) cu) = .inl (u_155.1.2.2.2.2.2.2.1, u_155.1.2.2.2.2.2.2.2))) := hφ
            refine W.eq (g2 := F0 m 80 ls [.int (iZ u_155.1.1)]) rfl ?_
            rcases p_157 with ⟨qt_158, cut_158, st_158, lt_158, xt_158, rt_158, ut_158, vt_158⟩ | ⟨qt_158, st_158⟩
            ·
              obtain ⟨⟨ar_159, br_159⟩, cr_159, dr_159, er_159, fr_159, gr_159, hr_159⟩ := id xt_158
              refine lv_istore_n (lv' := [(3, .int (iZ u_155.1.1)), (2, .int (iZ ke)), (0, .ref hv), (1, .int (iZ a6))]) hx hb dX10_readTest_80 rfl hl (bl rfl) rfl (fun ls hl => ?_)
              refine lv_aload_n hx hb dX10_readTest_81 rfl (lv_at hl 2 rfl) ?_
              refine va_get (D := D) (ci := 10) (v := .ref hy) (C := RX10) (T := TX10) (N := 5) hx hb hts iX10 hown hK hP 0 rfl rfl 3 (bl rfl) (hts _ qf_X10_19) (fun _ h => h) rfl dX10_readTest_82 ?_
              refine va_get (D := D) (ci := 9) (v := .ref y2) (C := RX9) (T := TX9) (N := 8) hx hb hts iX9 hown hK hP 2 rfl rfl 2 (bl rfl) (hts _ qf_X10_93) (fun _ h => h) rfl dX10_readTest_85 ?_
              refine lv_iload_n hx hb dX10_readTest_88 rfl (lv_at hl 3 rfl) ?_
              refine lv_iload_n hx hb dX10_readTest_89 rfl (lv_at hl 0 rfl) ?_
              refine va_iast hx hb hK hP hD hS 5 1 rfl rfl (zin (e := a6) (n := 60) ⟨by omega, by omega⟩ (bl rfl)) dX10_readTest_90 (fun H locs hP hD hS => ?_)
              obtain ⟨f_160, hf_160⟩ : ∃ gg9, gg9 = upd y2f (iZ a6).toNatClampNeg (iZ u_155.1.1) := ⟨_, rfl⟩
              rw [← hf_160] at hP hD
              refine lv_iload_n hx hb dX10_readTest_91 rfl (lv_at hl 0 rfl) ?_
              refine lv_iconst (v := iZ (-1)) hx hb dX10_readTest_92 rfl ?_
              refine lv_icmp_eq (tgt := 102) hx hb dX10_readTest_93 rfl (fun c_161 => ?_) (fun c_161 => ?_)
              ·
                have c_161 := (zeq (x := iZ u_155.1.1) (y := iZ (-1)) rfl rfl ⟨by omega, by omega⟩ wn_m1).mp c_161
                exact absurd c_161 (by omega)
              ·
                have c_161 := mt (zeq (x := iZ u_155.1.1) (y := iZ (-1)) rfl rfl ⟨by omega, by omega⟩ wn_m1).mpr c_161
                refine lv_iload_n hx hb dX10_readTest_96 rfl (lv_at hl 1 rfl) ?_
                refine lv_bipush (v := iZ 7) hx hb dX10_readTest_97 bip_7 ?_
                refine lv_icmp_ne (tgt := 113) hx hb dX10_readTest_99 rfl (fun c_162 => ?_) (fun c_162 => ?_)
                ·
                  have c_162 := mt (zeq (x := iZ ke) (y := iZ 7) rfl rfl ⟨by omega, by omega⟩ wn_7).mpr c_162
                  exact absurd c_162 (by omega)
                ·
                  have c_162 := (zeq (x := iZ ke) (y := iZ 7) rfl rfl ⟨by omega, by omega⟩ wn_7).mp c_162
                  refine lv_iload_n hx hb dX10_readTest_102 rfl (lv_at hl 0 rfl) ?_
                  refine lv_iconst (v := iZ (-1)) hx hb dX10_readTest_103 rfl ?_
                  refine lv_icmp_eq (tgt := 111) hx hb dX10_readTest_104 rfl (fun c_163 => ?_) (fun c_163 => ?_)
                  ·
                    have c_163 := (zeq (x := iZ u_155.1.1) (y := iZ (-1)) rfl rfl ⟨by omega, by omega⟩ wn_m1).mp c_163
                    exact absurd c_163 (by omega)
                  ·
                    have c_163 := mt (zeq (x := iZ u_155.1.1) (y := iZ (-1)) rfl rfl ⟨by omega, by omega⟩ wn_m1).mpr c_163
                    refine lv_iconst (v := iZ 1) hx hb dX10_readTest_107 rfl ?_
                    refine lv_goto (tgt := 112) hx hb dX10_readTest_108 rfl ?_
                    exact EWz hx hb hr hlocks hS ((1, u_155.1.2.1, u_155.1.2.2.1, u_155.1.2.2.2.1, u_155.1.2.2.2.2.1, u_155.1.2.2.2.2.2.1, u_155.1.2.2.2.2.2.2.1, u_155.1.2.2.2.2.2.2.2), (0, u_155.2.1.2), (f_153, f_160, y3f), ()) rfl rfl ⟨(show (0 ≤ tp ∧ tp ≤ 900) ∧ (0 ≤ ln ∧ ln ≤ 900) ∧ (0 ≤ u_155.1.2.1 ∧ u_155.1.2.1 ≤ u_155.1.2.2.1) ∧ (u_155.1.2.2.1 ≤ ln) ∧ (0 ≤ u_155.1.2.2.2.1 ∧ u_155.1.2.2.2.1 ≤ 4) ∧ (-2147483648 ≤ u_155.1.2.2.2.2.1 ∧ u_155.1.2.2.2.2.1 < 2147483648) ∧ (-1 ≤ u_155.1.2.2.2.2.2.1 ∧ u_155.1.2.2.2.2.2.1 ≤ 24) from (by first | with_reducible assumption | exact ⟨⟨by omega, by omega⟩, ⟨by omega, by omega⟩, ⟨by omega, by omega⟩, by omega, ⟨by omega, by omega⟩, ⟨by omega, by omega⟩, by omega, by omega⟩)), (show ((1 : Int) = 1 ∧ ∃ (q9 a9 b9 c9 : Int), xTe (tX bf ln) N n cu = .inr (q9, a9, b9, c9) ∧ cu ≤ q9 ∧ RDX (tX bf ln) q9 u_155.1.2.1 u_155.1.2.2.1 u_155.1.2.2.2.1 u_155.1.2.2.2.2.1 u_155.1.2.2.2.2.2.1 u_155.2.1.2 ∧ (YF f_153 y1f a6 a9 ∧ YF f_160 y2f a6 b9 ∧ YF y3f y3f a6 c9) ∧ u_155.1.2.2.2.2.2.2.1 = fk ∧ u_155.1.2.2.2.2.2.2.2 = fp) ∨ ((1 : Int) = 0 ∧ xTe (tX bf ln) N n cu = .inl (u_155.1.2.2.2.2.2.2.1, u_155.1.2.2.2.2.2.2.2)) from (Or.inl ⟨rfl, _, _, _, _, xTe_7 (show xKw (tX bf ln) cu = 7 from (by omega)) st_158, by omega, xt_158, ⟨(Or.inr ⟨ke, by omega, hf_153⟩), (Or.inr ⟨u_155.1.1, by omega, hf_160⟩), (Or.inl ⟨rfl, rfl⟩)⟩, by omega, by omega⟩))⟩ (hP.sub [0, 1, 8, 9, 10, 2, 3, 4, 5, 6, 7, 11, 12] rfl) (hD.sub [0, 1, 8, 9, 10, 2, 3, 4, 5, 6, 7, 11, 12] rfl rfl) dX10_readTest_112
            ·
              rw [qt_158]
              refine lv_istore_n (lv' := [(3, .int (iZ (-1))), (2, .int (iZ ke)), (0, .ref hv), (1, .int (iZ a6))]) hx hb dX10_readTest_80 rfl hl (bl rfl) rfl (fun ls hl => ?_)
              refine lv_aload_n hx hb dX10_readTest_81 rfl (lv_at hl 2 rfl) ?_
              refine va_get (D := D) (ci := 10) (v := .ref hy) (C := RX10) (T := TX10) (N := 5) hx hb hts iX10 hown hK hP 0 rfl rfl 3 (bl rfl) (hts _ qf_X10_19) (fun _ h => h) rfl dX10_readTest_82 ?_
              refine va_get (D := D) (ci := 9) (v := .ref y2) (C := RX9) (T := TX9) (N := 8) hx hb hts iX9 hown hK hP 2 rfl rfl 2 (bl rfl) (hts _ qf_X10_93) (fun _ h => h) rfl dX10_readTest_85 ?_
              refine lv_iload_n hx hb dX10_readTest_88 rfl (lv_at hl 3 rfl) ?_
              refine lv_iload_n hx hb dX10_readTest_89 rfl (lv_at hl 0 rfl) ?_
              refine va_iast hx hb hK hP hD hS 5 1 rfl rfl (zin (e := a6) (n := 60) ⟨by omega, by omega⟩ (bl rfl)) dX10_readTest_90 (fun H locs hP hD hS => ?_)
              obtain ⟨f_164, hf_164⟩ : ∃ gg9, gg9 = upd y2f (iZ a6).toNatClampNeg (iZ (-1)) := ⟨_, rfl⟩
              rw [← hf_164] at hP hD
              refine lv_iload_n hx hb dX10_readTest_91 rfl (lv_at hl 0 rfl) ?_
              refine lv_iconst (v := iZ (-1)) hx hb dX10_readTest_92 rfl ?_
              refine lv_icmp_eq (tgt := 102) hx hb dX10_readTest_93 rfl (fun _ => ?_) (fun c => absurd (by decide) c)
              refine lv_iload_n hx hb dX10_readTest_102 rfl (lv_at hl 0 rfl) ?_
              refine lv_iconst (v := iZ (-1)) hx hb dX10_readTest_103 rfl ?_
              refine lv_icmp_eq (tgt := 111) hx hb dX10_readTest_104 rfl (fun _ => ?_) (fun c => absurd (by decide) c)
              refine lv_iconst (v := iZ 0) hx hb dX10_readTest_111 rfl ?_
              exact EWz hx hb hr hlocks hS ((0, u_155.1.2.1, u_155.1.2.2.1, u_155.1.2.2.2.1, u_155.1.2.2.2.2.1, u_155.1.2.2.2.2.2.1, u_155.1.2.2.2.2.2.2.1, u_155.1.2.2.2.2.2.2.2), (0, u_155.2.1.2), (f_153, f_164, y3f), ()) rfl rfl ⟨(show (0 ≤ tp ∧ tp ≤ 900) ∧ (0 ≤ ln ∧ ln ≤ 900) ∧ (0 ≤ u_155.1.2.1 ∧ u_155.1.2.1 ≤ u_155.1.2.2.1) ∧ (u_155.1.2.2.1 ≤ ln) ∧ (0 ≤ u_155.1.2.2.2.1 ∧ u_155.1.2.2.2.1 ≤ 4) ∧ (-2147483648 ≤ u_155.1.2.2.2.2.1 ∧ u_155.1.2.2.2.2.1 < 2147483648) ∧ (-1 ≤ u_155.1.2.2.2.2.2.1 ∧ u_155.1.2.2.2.2.2.1 ≤ 24) from (by first | with_reducible assumption | exact ⟨⟨by omega, by omega⟩, ⟨by omega, by omega⟩, ⟨by omega, by omega⟩, by omega, ⟨by omega, by omega⟩, ⟨by omega, by omega⟩, by omega, by omega⟩)), (show ((0 : Int) = 1 ∧ ∃ (q9 a9 b9 c9 : Int), xTe (tX bf ln) N n cu = .inr (q9, a9, b9, c9) ∧ cu ≤ q9 ∧ RDX (tX bf ln) q9 u_155.1.2.1 u_155.1.2.2.1 u_155.1.2.2.2.1 u_155.1.2.2.2.2.1 u_155.1.2.2.2.2.2.1 u_155.2.1.2 ∧ (YF f_153 y1f a6 a9 ∧ YF f_164 y2f a6 b9 ∧ YF y3f y3f a6 c9) ∧ u_155.1.2.2.2.2.2.2.1 = fk ∧ u_155.1.2.2.2.2.2.2.2 = fp) ∨ ((0 : Int) = 0 ∧ xTe (tX bf ln) N n cu = .inl (u_155.1.2.2.2.2.2.2.1, u_155.1.2.2.2.2.2.2.2)) from (Or.inr ⟨rfl, xTe_7a (show xKw (tX bf ln) cu = 7 from (by omega)) st_158⟩))⟩ (hP.sub [0, 1, 8, 9, 10, 2, 3, 4, 5, 6, 7, 11, 12] rfl) (hD.sub [0, 1, 8, 9, 10, 2, 3, 4, 5, 6, 7, 11, 12] rfl rfl) dX10_readTest_112
          ·
            refine lv_aload_n hx hb dX10_readTest_68 rfl (lv_at hl 1 rfl) ?_
            refine va_get (D := D) (ci := 10) (v := .ref hr1) (C := RX10) (T := TX10) (N := 5) hx hb hts iX10 hown hK hP 0 rfl rfl 0 (bl rfl) (hts _ qf_X10_15) (fun _ h => h) rfl dX10_readTest_69 ?_
            refine lv_aload_n hx hb dX10_readTest_72 rfl (lv_at hl 1 rfl) ?_
            refine va_get (D := D) (ci := 10) (v := .ref hs) (C := RX10) (T := TX10) (N := 5) hx hb hts iX10 hown hK hP 0 rfl rfl 4 (bl rfl) (hts _ qf_X10_23) (fun _ h => h) rfl dX10_readTest_73 ?_
            refine lv_iconst (v := iZ (-1)) hx hb dX10_readTest_76 rfl ?_
            refine CWV (As := [.ref hs, .int (iZ (-1))]) (rest := []) (wc := _) (wr := [(hv, .inr (10, [.ref hr1, .ref oo, .int (iZ de), .ref hy, .ref hs])), (oo, .inl (k 1, 3, .inl of0)), (hy, .inr (9, [.ref yw, .ref y1, .ref y2, .ref y3, .ref yp, .int (iZ th), .int (iZ ys), .int (iZ yr)])), (yw, .inl (k 1, 60, .inl ywf)), (y1, .inl (k 1, 60, .inl f_153)), (y2, .inl (k 1, 60, .inl y2f)), (y3, .inl (k 1, 60, .inl y3f)), (yp, .inl (k 1, 60, .inl ypf))]) hx hb hml hown hts hKK hP hD hS hA (x_takeRock l D k ([.ref hN, .ref hf, .ref hg, .int (iZ n), .int (iZ ni), .int (iZ lw), .int (iZ we)]) hr1 tx kw hs hN tp ln u_147.1.2.1 u_147.1.2.2.1 u_147.1.2.2.2.1 u_147.1.2.2.2.2.1 u_147.1.2.2.2.2.2 fk fp u_147.2.1.2 bf kwf nf n (xEn (tX bf ln) cu) (-1) N rfl rfl (by first | with_reducible assumption | exact ⟨⟨by omega, by omega⟩, ⟨by omega, by omega⟩, ⟨by omega, by omega⟩, by omega, ⟨by omega, by omega⟩, ⟨by omega, by omega⟩, by omega, by omega⟩) hbf hkw rx_150 ⟨by omega, by omega⟩ ⟨by omega, by omega⟩ hns) ci_X4_takeRock qm_X10_89 ⟨Nat.le_of_ble_eq_true rfl, Nat.le_of_ble_eq_true rfl⟩ ⟨Nat.le_of_ble_eq_true rfl, Nat.le_of_ble_eq_true rfl⟩ [10, 11, 12, 8, 9] [0, 1, 2, 3, 4, 5, 6, 7] rfl rfl rfl rfl rfl (dj rfl) 0 rfl rfl rfl hl.1 rfl (Nat.le_of_ble_eq_true rfl) dX10_readTest_77 (fun u_167 H locs hφ hP hD hS => ?_)
            obtain ⟨p_168, p_169⟩ : ((0 ≤ tp ∧ tp ≤ 900) ∧ (0 ≤ ln ∧ ln ≤ 900) ∧ (0 ≤ u_167.1.2.1 ∧ u_167.1.2.1 ≤ u_167.1.2.2.1) ∧ (u_167.1.2.2.1 ≤ ln) ∧ (0 ≤ u_167.1.2.2.2.1 ∧ u_167.1.2.2.2.1 ≤ 4) ∧ (-2147483648 ≤ u_167.1.2.2.2.2.1 ∧ u_167.1.2.2.2.2.1 < 2147483648) ∧ (-1 ≤ u_167.1.2.2.2.2.2.1 ∧ u_167.1.2.2.2.2.2.1 ≤ 24)) ∧ ((¬ (u_167.1.1 : Int) = -1 ∧ ∃ q9 : Int, xTr (tX bf ln) N n (-1) (xEn (tX bf ln) cu) = .inr (q9, u_167.1.1) ∧ (xEn (tX bf ln) cu) < q9 ∧ RDX (tX bf ln) q9 u_167.1.2.1 u_167.1.2.2.1 u_167.1.2.2.2.1 u_167.1.2.2.2.2.1 u_167.1.2.2.2.2.2.1 u_167.2.1.2 ∧ (0 ≤ u_167.1.1 ∧ u_167.1.1 < n) ∧ u_167.1.2.2.2.2.2.2.1 = fk ∧ u_167.1.2.2.2.2.2.2.2 = fp) ∨ ((u_167.1.1 : Int) = -1 ∧ xTr (tX bf ln) N n (-1) (xEn (tX bf ln) cu) = .inl (u_167.1.2.2.2.2.2.2.1, u_167.1.2.2.2.2.2.2.2))) := hφ
            refine W.eq (g2 := F0 m 80 ls [.int (iZ u_167.1.1)]) rfl ?_
            rcases p_169 with ⟨qt_170, cut_170, st_170, lt_170, xt_170, rt_170, ut_170, vt_170⟩ | ⟨qt_170, st_170⟩
            ·
              obtain ⟨⟨ar_171, br_171⟩, cr_171, dr_171, er_171, fr_171, gr_171, hr_171⟩ := id xt_170
              refine lv_istore_n (lv' := [(3, .int (iZ u_167.1.1)), (2, .int (iZ ke)), (0, .ref hv), (1, .int (iZ a6))]) hx hb dX10_readTest_80 rfl hl (bl rfl) rfl (fun ls hl => ?_)
              refine lv_aload_n hx hb dX10_readTest_81 rfl (lv_at hl 2 rfl) ?_
              refine va_get (D := D) (ci := 10) (v := .ref hy) (C := RX10) (T := TX10) (N := 5) hx hb hts iX10 hown hK hP 0 rfl rfl 3 (bl rfl) (hts _ qf_X10_19) (fun _ h => h) rfl dX10_readTest_82 ?_
              refine va_get (D := D) (ci := 9) (v := .ref y2) (C := RX9) (T := TX9) (N := 8) hx hb hts iX9 hown hK hP 2 rfl rfl 2 (bl rfl) (hts _ qf_X10_93) (fun _ h => h) rfl dX10_readTest_85 ?_
              refine lv_iload_n hx hb dX10_readTest_88 rfl (lv_at hl 3 rfl) ?_
              refine lv_iload_n hx hb dX10_readTest_89 rfl (lv_at hl 0 rfl) ?_
              refine va_iast hx hb hK hP hD hS 5 1 rfl rfl (zin (e := a6) (n := 60) ⟨by omega, by omega⟩ (bl rfl)) dX10_readTest_90 (fun H locs hP hD hS => ?_)
              obtain ⟨f_172, hf_172⟩ : ∃ gg9, gg9 = upd y2f (iZ a6).toNatClampNeg (iZ u_167.1.1) := ⟨_, rfl⟩
              rw [← hf_172] at hP hD
              refine lv_iload_n hx hb dX10_readTest_91 rfl (lv_at hl 0 rfl) ?_
              refine lv_iconst (v := iZ (-1)) hx hb dX10_readTest_92 rfl ?_
              refine lv_icmp_eq (tgt := 102) hx hb dX10_readTest_93 rfl (fun c_173 => ?_) (fun c_173 => ?_)
              ·
                have c_173 := (zeq (x := iZ u_167.1.1) (y := iZ (-1)) rfl rfl ⟨by omega, by omega⟩ wn_m1).mp c_173
                exact absurd c_173 (by omega)
              ·
                have c_173 := mt (zeq (x := iZ u_167.1.1) (y := iZ (-1)) rfl rfl ⟨by omega, by omega⟩ wn_m1).mpr c_173
                refine lv_iload_n hx hb dX10_readTest_96 rfl (lv_at hl 1 rfl) ?_
                refine lv_bipush (v := iZ 7) hx hb dX10_readTest_97 bip_7 ?_
                refine lv_icmp_ne (tgt := 113) hx hb dX10_readTest_99 rfl (fun c_174 => ?_) (fun c_174 => ?_)
                ·
                  have c_174 := mt (zeq (x := iZ ke) (y := iZ 7) rfl rfl ⟨by omega, by omega⟩ wn_7).mpr c_174
                  refine lv_iload_n hx hb dX10_readTest_113 rfl (lv_at hl 1 rfl) ?_
                  refine lv_bipush (v := iZ 20) hx hb dX10_readTest_114 bip_20 ?_
                  refine lv_icmp_ne (tgt := 133) hx hb dX10_readTest_116 rfl (fun c_175 => ?_) (fun c_175 => ?_)
                  ·
                    have c_175 := mt (zeq (x := iZ ke) (y := iZ 20) rfl rfl ⟨by omega, by omega⟩ wn_20).mpr c_175
                    exact absurd c_175 (by omega)
                  ·
                    have c_175 := (zeq (x := iZ ke) (y := iZ 20) rfl rfl ⟨by omega, by omega⟩ wn_20).mp c_175
                    refine lv_aload_n hx hb dX10_readTest_119 rfl (lv_at hl 2 rfl) ?_
                    refine va_get (D := D) (ci := 10) (v := .ref hr1) (C := RX10) (T := TX10) (N := 5) hx hb hts iX10 hown hK hP 0 rfl rfl 0 (bl rfl) (hts _ qf_X10_15) (fun _ h => h) rfl dX10_readTest_120 ?_
                    refine lv_bipush (v := iZ 21) hx hb dX10_readTest_123 bip_21 ?_
                    refine CWV (As := [.int (iZ 21)]) (rest := []) (wc := _) (wr := [(hv, .inr (10, [.ref hr1, .ref oo, .int (iZ de), .ref hy, .ref hs])), (oo, .inl (k 1, 3, .inl of0)), (hy, .inr (9, [.ref yw, .ref y1, .ref y2, .ref y3, .ref yp, .int (iZ th), .int (iZ ys), .int (iZ yr)])), (yw, .inl (k 1, 60, .inl ywf)), (y1, .inl (k 1, 60, .inl f_153)), (y2, .inl (k 1, 60, .inl f_172)), (y3, .inl (k 1, 60, .inl y3f)), (yp, .inl (k 1, 60, .inl ypf)), (hs, .inr (5, [.ref hN, .ref hf, .ref hg, .int (iZ n), .int (iZ ni), .int (iZ lw), .int (iZ we)])), (hN, .inl (k 2, 6, .inr (.inl nf)))]) hx hb hml hown hts hKK hP hD hS hA (x_takeWord l D k hr1 tx kw tp ln u_167.1.2.1 u_167.1.2.2.1 u_167.1.2.2.2.1 u_167.1.2.2.2.2.1 u_167.1.2.2.2.2.2.1 u_167.1.2.2.2.2.2.2.1 u_167.1.2.2.2.2.2.2.2 u_167.2.1.2 bf kwf cut_170 21 (by first | with_reducible assumption | exact ⟨⟨by omega, by omega⟩, ⟨by omega, by omega⟩, ⟨by omega, by omega⟩, by omega, ⟨by omega, by omega⟩, ⟨by omega, by omega⟩, by omega, by omega⟩) hbf hkw xt_170 ⟨by omega, by omega⟩) ci_X4_takeWord qm_X10_103 ⟨Nat.le_of_ble_eq_true rfl, Nat.le_of_ble_eq_true rfl⟩ ⟨Nat.le_of_ble_eq_true rfl, Nat.le_of_ble_eq_true rfl⟩ [8, 9, 10] [0, 1, 2, 3, 4, 5, 6, 7, 11, 12] rfl rfl rfl rfl rfl (dj rfl) 0 rfl rfl rfl hl.1 rfl (Nat.le_of_ble_eq_true rfl) dX10_readTest_125 (fun u_176 H locs hφ hP hD hS => ?_)
                    obtain ⟨p_177, p_178⟩ : ((0 ≤ tp ∧ tp ≤ 900) ∧ (0 ≤ ln ∧ ln ≤ 900) ∧ (0 ≤ u_176.1.2.1 ∧ u_176.1.2.1 ≤ u_176.1.2.2.1) ∧ (u_176.1.2.2.1 ≤ ln) ∧ (0 ≤ u_176.1.2.2.2.1 ∧ u_176.1.2.2.2.1 ≤ 4) ∧ (-2147483648 ≤ u_176.1.2.2.2.2.1 ∧ u_176.1.2.2.2.2.1 < 2147483648) ∧ (-1 ≤ u_176.1.2.2.2.2.2.1 ∧ u_176.1.2.2.2.2.2.1 ≤ 24)) ∧ (((u_176.1.1 : Int) = 1 ∧ ∃ q9 : Int, xTw (tX bf ln) 21 cut_170 = .inr q9 ∧ cut_170 < q9 ∧ RDX (tX bf ln) q9 u_176.1.2.1 u_176.1.2.2.1 u_176.1.2.2.2.1 u_176.1.2.2.2.2.1 u_176.1.2.2.2.2.2.1 u_176.2.1.2 ∧ u_176.1.2.2.2.2.2.2.1 = u_167.1.2.2.2.2.2.2.1 ∧ u_176.1.2.2.2.2.2.2.2 = u_167.1.2.2.2.2.2.2.2) ∨ ((u_176.1.1 : Int) = 0 ∧ xTw (tX bf ln) 21 cut_170 = .inl (u_176.1.2.2.2.2.2.2.1, u_176.1.2.2.2.2.2.2.2))) := hφ
                    refine W.eq (g2 := F0 m 128 ls [.int (iZ u_176.1.1)]) rfl ?_
                    rcases p_178 with ⟨qt_179, cut_179, st_179, lt_179, xt_179, ut_179, vt_179⟩ | ⟨qt_179, st_179⟩
                    ·
                      rw [qt_179]
                      obtain ⟨⟨ar_180, br_180⟩, cr_180, dr_180, er_180, fr_180, gr_180, hr_180⟩ := id xt_179
                      refine lv_if_ne (tgt := 133) hx hb dX10_readTest_128 rfl (fun _ => ?_) (fun c => absurd c (by decide))
                      refine lv_iload_n hx hb dX10_readTest_133 rfl (lv_at hl 1 rfl) ?_
                      refine lv_bipush (v := iZ 15) hx hb dX10_readTest_134 bip_15 ?_
                      refine lv_icmp_ne (tgt := 153) hx hb dX10_readTest_136 rfl (fun c_182 => ?_) (fun c_182 => ?_)
                      ·
                        have c_182 := mt (zeq (x := iZ ke) (y := iZ 15) rfl rfl ⟨by omega, by omega⟩ wn_15).mpr c_182
                        refine lv_aload_n hx hb dX10_readTest_153 rfl (lv_at hl 2 rfl) ?_
                        refine va_get (D := D) (ci := 10) (v := .ref hr1) (C := RX10) (T := TX10) (N := 5) hx hb hts iX10 hown hK hP 0 rfl rfl 0 (bl rfl) (hts _ qf_X10_15) (fun _ h => h) rfl dX10_readTest_154 ?_
                        refine lv_aload_n hx hb dX10_readTest_157 rfl (lv_at hl 2 rfl) ?_
                        refine va_get (D := D) (ci := 10) (v := .ref hs) (C := RX10) (T := TX10) (N := 5) hx hb hts iX10 hown hK hP 0 rfl rfl 4 (bl rfl) (hts _ qf_X10_23) (fun _ h => h) rfl dX10_readTest_158 ?_
                        refine lv_iconst (v := iZ (-1)) hx hb dX10_readTest_161 rfl ?_
                        refine CWV (As := [.ref hs, .int (iZ (-1))]) (rest := []) (wc := _) (wr := [(hv, .inr (10, [.ref hr1, .ref oo, .int (iZ de), .ref hy, .ref hs])), (oo, .inl (k 1, 3, .inl of0)), (hy, .inr (9, [.ref yw, .ref y1, .ref y2, .ref y3, .ref yp, .int (iZ th), .int (iZ ys), .int (iZ yr)])), (yw, .inl (k 1, 60, .inl ywf)), (y1, .inl (k 1, 60, .inl f_153)), (y2, .inl (k 1, 60, .inl f_172)), (y3, .inl (k 1, 60, .inl y3f)), (yp, .inl (k 1, 60, .inl ypf))]) hx hb hml hown hts hKK hP hD hS hA (x_takeRock l D k ([.ref hN, .ref hf, .ref hg, .int (iZ n), .int (iZ ni), .int (iZ lw), .int (iZ we)]) hr1 tx kw hs hN tp ln u_176.1.2.1 u_176.1.2.2.1 u_176.1.2.2.2.1 u_176.1.2.2.2.2.1 u_176.1.2.2.2.2.2.1 u_176.1.2.2.2.2.2.2.1 u_176.1.2.2.2.2.2.2.2 u_176.2.1.2 bf kwf nf n cut_179 (-1) N rfl rfl (by first | with_reducible assumption | exact ⟨⟨by omega, by omega⟩, ⟨by omega, by omega⟩, ⟨by omega, by omega⟩, by omega, ⟨by omega, by omega⟩, ⟨by omega, by omega⟩, by omega, by omega⟩) hbf hkw xt_179 ⟨by omega, by omega⟩ ⟨by omega, by omega⟩ hns) ci_X4_takeRock qm_X10_89 ⟨Nat.le_of_ble_eq_true rfl, Nat.le_of_ble_eq_true rfl⟩ ⟨Nat.le_of_ble_eq_true rfl, Nat.le_of_ble_eq_true rfl⟩ [10, 11, 12, 8, 9] [0, 1, 2, 3, 4, 5, 6, 7] rfl rfl rfl rfl rfl (dj rfl) 0 rfl rfl rfl hl.1 rfl (Nat.le_of_ble_eq_true rfl) dX10_readTest_162 (fun u_183 H locs hφ hP hD hS => ?_)
                        obtain ⟨p_184, p_185⟩ : ((0 ≤ tp ∧ tp ≤ 900) ∧ (0 ≤ ln ∧ ln ≤ 900) ∧ (0 ≤ u_183.1.2.1 ∧ u_183.1.2.1 ≤ u_183.1.2.2.1) ∧ (u_183.1.2.2.1 ≤ ln) ∧ (0 ≤ u_183.1.2.2.2.1 ∧ u_183.1.2.2.2.1 ≤ 4) ∧ (-2147483648 ≤ u_183.1.2.2.2.2.1 ∧ u_183.1.2.2.2.2.1 < 2147483648) ∧ (-1 ≤ u_183.1.2.2.2.2.2.1 ∧ u_183.1.2.2.2.2.2.1 ≤ 24)) ∧ ((¬ (u_183.1.1 : Int) = -1 ∧ ∃ q9 : Int, xTr (tX bf ln) N n (-1) cut_179 = .inr (q9, u_183.1.1) ∧ cut_179 < q9 ∧ RDX (tX bf ln) q9 u_183.1.2.1 u_183.1.2.2.1 u_183.1.2.2.2.1 u_183.1.2.2.2.2.1 u_183.1.2.2.2.2.2.1 u_183.2.1.2 ∧ (0 ≤ u_183.1.1 ∧ u_183.1.1 < n) ∧ u_183.1.2.2.2.2.2.2.1 = u_176.1.2.2.2.2.2.2.1 ∧ u_183.1.2.2.2.2.2.2.2 = u_176.1.2.2.2.2.2.2.2) ∨ ((u_183.1.1 : Int) = -1 ∧ xTr (tX bf ln) N n (-1) cut_179 = .inl (u_183.1.2.2.2.2.2.2.1, u_183.1.2.2.2.2.2.2.2))) := hφ
                        refine W.eq (g2 := F0 m 165 ls [.int (iZ u_183.1.1)]) rfl ?_
                        rcases p_185 with ⟨qt_186, cut_186, st_186, lt_186, xt_186, rt_186, ut_186, vt_186⟩ | ⟨qt_186, st_186⟩
                        ·
                          obtain ⟨⟨ar_187, br_187⟩, cr_187, dr_187, er_187, fr_187, gr_187, hr_187⟩ := id xt_186
                          refine lv_istore (lv' := [(4, .int (iZ u_183.1.1)), (3, .int (iZ u_167.1.1)), (2, .int (iZ ke)), (0, .ref hv), (1, .int (iZ a6))]) hx hb dX10_readTest_165 hl (bl rfl) rfl (fun ls hl => ?_)
                          refine lv_aload_n hx hb dX10_readTest_167 rfl (lv_at hl 3 rfl) ?_
                          refine va_get (D := D) (ci := 10) (v := .ref hy) (C := RX10) (T := TX10) (N := 5) hx hb hts iX10 hown hK hP 0 rfl rfl 3 (bl rfl) (hts _ qf_X10_19) (fun _ h => h) rfl dX10_readTest_168 ?_
                          refine va_get (D := D) (ci := 9) (v := .ref y3) (C := RX9) (T := TX9) (N := 8) hx hb hts iX9 hown hK hP 2 rfl rfl 3 (bl rfl) (hts _ qf_X10_106) (fun _ h => h) rfl dX10_readTest_171 ?_
                          refine lv_iload_n hx hb dX10_readTest_174 rfl (lv_at hl 4 rfl) ?_
                          refine lv_iload hx hb dX10_readTest_175 (lv_at hl 0 rfl) ?_
                          refine va_iast hx hb hK hP hD hS 6 1 rfl rfl (zin (e := a6) (n := 60) ⟨by omega, by omega⟩ (bl rfl)) dX10_readTest_177 (fun H locs hP hD hS => ?_)
                          obtain ⟨f_188, hf_188⟩ : ∃ gg9, gg9 = upd y3f (iZ a6).toNatClampNeg (iZ u_183.1.1) := ⟨_, rfl⟩
                          rw [← hf_188] at hP hD
                          refine lv_iload hx hb dX10_readTest_178 (lv_at hl 0 rfl) ?_
                          refine lv_iconst (v := iZ (-1)) hx hb dX10_readTest_180 rfl ?_
                          refine lv_icmp_eq (tgt := 188) hx hb dX10_readTest_181 rfl (fun c_189 => ?_) (fun c_189 => ?_)
                          ·
                            have c_189 := (zeq (x := iZ u_183.1.1) (y := iZ (-1)) rfl rfl ⟨by omega, by omega⟩ wn_m1).mp c_189
                            exact absurd c_189 (by omega)
                          ·
                            have c_189 := mt (zeq (x := iZ u_183.1.1) (y := iZ (-1)) rfl rfl ⟨by omega, by omega⟩ wn_m1).mpr c_189
                            refine lv_iconst (v := iZ 1) hx hb dX10_readTest_184 rfl ?_
                            refine lv_goto (tgt := 189) hx hb dX10_readTest_185 rfl ?_
                            exact EWz hx hb hr hlocks hS ((1, u_183.1.2.1, u_183.1.2.2.1, u_183.1.2.2.2.1, u_183.1.2.2.2.2.1, u_183.1.2.2.2.2.2.1, u_183.1.2.2.2.2.2.2.1, u_183.1.2.2.2.2.2.2.2), (0, u_183.2.1.2), (f_153, f_172, f_188), ()) rfl rfl ⟨(show (0 ≤ tp ∧ tp ≤ 900) ∧ (0 ≤ ln ∧ ln ≤ 900) ∧ (0 ≤ u_183.1.2.1 ∧ u_183.1.2.1 ≤ u_183.1.2.2.1) ∧ (u_183.1.2.2.1 ≤ ln) ∧ (0 ≤ u_183.1.2.2.2.1 ∧ u_183.1.2.2.2.1 ≤ 4) ∧ (-2147483648 ≤ u_183.1.2.2.2.2.1 ∧ u_183.1.2.2.2.2.1 < 2147483648) ∧ (-1 ≤ u_183.1.2.2.2.2.2.1 ∧ u_183.1.2.2.2.2.2.1 ≤ 24) from (by first | with_reducible assumption | exact ⟨⟨by omega, by omega⟩, ⟨by omega, by omega⟩, ⟨by omega, by omega⟩, by omega, ⟨by omega, by omega⟩, ⟨by omega, by omega⟩, by omega, by omega⟩)), (show ((1 : Int) = 1 ∧ ∃ (q9 a9 b9 c9 : Int), xTe (tX bf ln) N n cu = .inr (q9, a9, b9, c9) ∧ cu ≤ q9 ∧ RDX (tX bf ln) q9 u_183.1.2.1 u_183.1.2.2.1 u_183.1.2.2.2.1 u_183.1.2.2.2.2.1 u_183.1.2.2.2.2.2.1 u_183.2.1.2 ∧ (YF f_153 y1f a6 a9 ∧ YF f_172 y2f a6 b9 ∧ YF f_188 y3f a6 c9) ∧ u_183.1.2.2.2.2.2.2.1 = fk ∧ u_183.1.2.2.2.2.2.2.2 = fp) ∨ ((1 : Int) = 0 ∧ xTe (tX bf ln) N n cu = .inl (u_183.1.2.2.2.2.2.2.1, u_183.1.2.2.2.2.2.2.2)) from (Or.inl ⟨rfl, _, _, _, _, xTe_20 (show xKw (tX bf ln) cu = 20 from (by omega)) st_170 st_179 st_186, by omega, xt_186, ⟨(Or.inr ⟨ke, by omega, hf_153⟩), (Or.inr ⟨u_167.1.1, by omega, hf_172⟩), (Or.inr ⟨u_183.1.1, by omega, hf_188⟩)⟩, by omega, by omega⟩))⟩ (hP.sub [0, 1, 8, 9, 10, 2, 3, 4, 5, 6, 7, 11, 12] rfl) (hD.sub [0, 1, 8, 9, 10, 2, 3, 4, 5, 6, 7, 11, 12] rfl rfl) dX10_readTest_189
                        ·
                          rw [qt_186]
                          refine lv_istore (lv' := [(4, .int (iZ (-1))), (3, .int (iZ u_167.1.1)), (2, .int (iZ ke)), (0, .ref hv), (1, .int (iZ a6))]) hx hb dX10_readTest_165 hl (bl rfl) rfl (fun ls hl => ?_)
                          refine lv_aload_n hx hb dX10_readTest_167 rfl (lv_at hl 3 rfl) ?_
                          refine va_get (D := D) (ci := 10) (v := .ref hy) (C := RX10) (T := TX10) (N := 5) hx hb hts iX10 hown hK hP 0 rfl rfl 3 (bl rfl) (hts _ qf_X10_19) (fun _ h => h) rfl dX10_readTest_168 ?_
                          refine va_get (D := D) (ci := 9) (v := .ref y3) (C := RX9) (T := TX9) (N := 8) hx hb hts iX9 hown hK hP 2 rfl rfl 3 (bl rfl) (hts _ qf_X10_106) (fun _ h => h) rfl dX10_readTest_171 ?_
                          refine lv_iload_n hx hb dX10_readTest_174 rfl (lv_at hl 4 rfl) ?_
                          refine lv_iload hx hb dX10_readTest_175 (lv_at hl 0 rfl) ?_
                          refine va_iast hx hb hK hP hD hS 6 1 rfl rfl (zin (e := a6) (n := 60) ⟨by omega, by omega⟩ (bl rfl)) dX10_readTest_177 (fun H locs hP hD hS => ?_)
                          obtain ⟨f_190, hf_190⟩ : ∃ gg9, gg9 = upd y3f (iZ a6).toNatClampNeg (iZ (-1)) := ⟨_, rfl⟩
                          rw [← hf_190] at hP hD
                          refine lv_iload hx hb dX10_readTest_178 (lv_at hl 0 rfl) ?_
                          refine lv_iconst (v := iZ (-1)) hx hb dX10_readTest_180 rfl ?_
                          refine lv_icmp_eq (tgt := 188) hx hb dX10_readTest_181 rfl (fun _ => ?_) (fun c => absurd (by decide) c)
                          refine lv_iconst (v := iZ 0) hx hb dX10_readTest_188 rfl ?_
                          exact EWz hx hb hr hlocks hS ((0, u_183.1.2.1, u_183.1.2.2.1, u_183.1.2.2.2.1, u_183.1.2.2.2.2.1, u_183.1.2.2.2.2.2.1, u_183.1.2.2.2.2.2.2.1, u_183.1.2.2.2.2.2.2.2), (0, u_183.2.1.2), (f_153, f_172, f_190), ()) rfl rfl ⟨(show (0 ≤ tp ∧ tp ≤ 900) ∧ (0 ≤ ln ∧ ln ≤ 900) ∧ (0 ≤ u_183.1.2.1 ∧ u_183.1.2.1 ≤ u_183.1.2.2.1) ∧ (u_183.1.2.2.1 ≤ ln) ∧ (0 ≤ u_183.1.2.2.2.1 ∧ u_183.1.2.2.2.1 ≤ 4) ∧ (-2147483648 ≤ u_183.1.2.2.2.2.1 ∧ u_183.1.2.2.2.2.1 < 2147483648) ∧ (-1 ≤ u_183.1.2.2.2.2.2.1 ∧ u_183.1.2.2.2.2.2.1 ≤ 24) from (by first | with_reducible assumption | exact ⟨⟨by omega, by omega⟩, ⟨by omega, by omega⟩, ⟨by omega, by omega⟩, by omega, ⟨by omega, by omega⟩, ⟨by omega, by omega⟩, by omega, by omega⟩)), (show ((0 : Int) = 1 ∧ ∃ (q9 a9 b9 c9 : Int), xTe (tX bf ln) N n cu = .inr (q9, a9, b9, c9) ∧ cu ≤ q9 ∧ RDX (tX bf ln) q9 u_183.1.2.1 u_183.1.2.2.1 u_183.1.2.2.2.1 u_183.1.2.2.2.2.1 u_183.1.2.2.2.2.2.1 u_183.2.1.2 ∧ (YF f_153 y1f a6 a9 ∧ YF f_172 y2f a6 b9 ∧ YF f_190 y3f a6 c9) ∧ u_183.1.2.2.2.2.2.2.1 = fk ∧ u_183.1.2.2.2.2.2.2.2 = fp) ∨ ((0 : Int) = 0 ∧ xTe (tX bf ln) N n cu = .inl (u_183.1.2.2.2.2.2.2.1, u_183.1.2.2.2.2.2.2.2)) from (Or.inr ⟨rfl, xTe_20c (show xKw (tX bf ln) cu = 20 from (by omega)) st_170 st_179 st_186⟩))⟩ (hP.sub [0, 1, 8, 9, 10, 2, 3, 4, 5, 6, 7, 11, 12] rfl) (hD.sub [0, 1, 8, 9, 10, 2, 3, 4, 5, 6, 7, 11, 12] rfl rfl) dX10_readTest_189
                      ·
                        have c_182 := (zeq (x := iZ ke) (y := iZ 15) rfl rfl ⟨by omega, by omega⟩ wn_15).mp c_182
                        exact absurd c_182 (by omega)
                    ·
                      rw [qt_179]
                      refine lv_if_ne (tgt := 133) hx hb dX10_readTest_128 rfl (fun c => absurd (by decide) c) (fun _ => ?_)
                      refine lv_iconst (v := iZ 0) hx hb dX10_readTest_131 rfl ?_
                      exact EWz hx hb hr hlocks hS ((0, u_176.1.2.1, u_176.1.2.2.1, u_176.1.2.2.2.1, u_176.1.2.2.2.2.1, u_176.1.2.2.2.2.2.1, u_176.1.2.2.2.2.2.2.1, u_176.1.2.2.2.2.2.2.2), (0, u_176.2.1.2), (f_153, f_172, y3f), ()) rfl rfl ⟨(show (0 ≤ tp ∧ tp ≤ 900) ∧ (0 ≤ ln ∧ ln ≤ 900) ∧ (0 ≤ u_176.1.2.1 ∧ u_176.1.2.1 ≤ u_176.1.2.2.1) ∧ (u_176.1.2.2.1 ≤ ln) ∧ (0 ≤ u_176.1.2.2.2.1 ∧ u_176.1.2.2.2.1 ≤ 4) ∧ (-2147483648 ≤ u_176.1.2.2.2.2.1 ∧ u_176.1.2.2.2.2.1 < 2147483648) ∧ (-1 ≤ u_176.1.2.2.2.2.2.1 ∧ u_176.1.2.2.2.2.2.1 ≤ 24) from (by first | with_reducible assumption | exact ⟨⟨by omega, by omega⟩, ⟨by omega, by omega⟩, ⟨by omega, by omega⟩, by omega, ⟨by omega, by omega⟩, ⟨by omega, by omega⟩, by omega, by omega⟩)), (show ((0 : Int) = 1 ∧ ∃ (q9 a9 b9 c9 : Int), xTe (tX bf ln) N n cu = .inr (q9, a9, b9, c9) ∧ cu ≤ q9 ∧ RDX (tX bf ln) q9 u_176.1.2.1 u_176.1.2.2.1 u_176.1.2.2.2.1 u_176.1.2.2.2.2.1 u_176.1.2.2.2.2.2.1 u_176.2.1.2 ∧ (YF f_153 y1f a6 a9 ∧ YF f_172 y2f a6 b9 ∧ YF y3f y3f a6 c9) ∧ u_176.1.2.2.2.2.2.2.1 = fk ∧ u_176.1.2.2.2.2.2.2.2 = fp) ∨ ((0 : Int) = 0 ∧ xTe (tX bf ln) N n cu = .inl (u_176.1.2.2.2.2.2.2.1, u_176.1.2.2.2.2.2.2.2)) from (Or.inr ⟨rfl, xTe_20b (show xKw (tX bf ln) cu = 20 from (by omega)) st_170 st_179⟩))⟩ (hP.sub [0, 1, 10, 11, 12, 2, 3, 4, 5, 6, 7, 8, 9] rfl) (hD.sub [0, 1, 10, 11, 12, 2, 3, 4, 5, 6, 7, 8, 9] rfl rfl) dX10_readTest_132
                ·
                  have c_174 := (zeq (x := iZ ke) (y := iZ 7) rfl rfl ⟨by omega, by omega⟩ wn_7).mp c_174
                  exact absurd c_174 (by omega)
            ·
              rw [qt_170]
              refine lv_istore_n (lv' := [(3, .int (iZ (-1))), (2, .int (iZ ke)), (0, .ref hv), (1, .int (iZ a6))]) hx hb dX10_readTest_80 rfl hl (bl rfl) rfl (fun ls hl => ?_)
              refine lv_aload_n hx hb dX10_readTest_81 rfl (lv_at hl 2 rfl) ?_
              refine va_get (D := D) (ci := 10) (v := .ref hy) (C := RX10) (T := TX10) (N := 5) hx hb hts iX10 hown hK hP 0 rfl rfl 3 (bl rfl) (hts _ qf_X10_19) (fun _ h => h) rfl dX10_readTest_82 ?_
              refine va_get (D := D) (ci := 9) (v := .ref y2) (C := RX9) (T := TX9) (N := 8) hx hb hts iX9 hown hK hP 2 rfl rfl 2 (bl rfl) (hts _ qf_X10_93) (fun _ h => h) rfl dX10_readTest_85 ?_
              refine lv_iload_n hx hb dX10_readTest_88 rfl (lv_at hl 3 rfl) ?_
              refine lv_iload_n hx hb dX10_readTest_89 rfl (lv_at hl 0 rfl) ?_
              refine va_iast hx hb hK hP hD hS 5 1 rfl rfl (zin (e := a6) (n := 60) ⟨by omega, by omega⟩ (bl rfl)) dX10_readTest_90 (fun H locs hP hD hS => ?_)
              obtain ⟨f_193, hf_193⟩ : ∃ gg9, gg9 = upd y2f (iZ a6).toNatClampNeg (iZ (-1)) := ⟨_, rfl⟩
              rw [← hf_193] at hP hD
              refine lv_iload_n hx hb dX10_readTest_91 rfl (lv_at hl 0 rfl) ?_
              refine lv_iconst (v := iZ (-1)) hx hb dX10_readTest_92 rfl ?_
              refine lv_icmp_eq (tgt := 102) hx hb dX10_readTest_93 rfl (fun _ => ?_) (fun c => absurd (by decide) c)
              refine lv_iload_n hx hb dX10_readTest_102 rfl (lv_at hl 0 rfl) ?_
              refine lv_iconst (v := iZ (-1)) hx hb dX10_readTest_103 rfl ?_
              refine lv_icmp_eq (tgt := 111) hx hb dX10_readTest_104 rfl (fun _ => ?_) (fun c => absurd (by decide) c)
              refine lv_iconst (v := iZ 0) hx hb dX10_readTest_111 rfl ?_
              exact EWz hx hb hr hlocks hS ((0, u_167.1.2.1, u_167.1.2.2.1, u_167.1.2.2.2.1, u_167.1.2.2.2.2.1, u_167.1.2.2.2.2.2.1, u_167.1.2.2.2.2.2.2.1, u_167.1.2.2.2.2.2.2.2), (0, u_167.2.1.2), (f_153, f_193, y3f), ()) rfl rfl ⟨(show (0 ≤ tp ∧ tp ≤ 900) ∧ (0 ≤ ln ∧ ln ≤ 900) ∧ (0 ≤ u_167.1.2.1 ∧ u_167.1.2.1 ≤ u_167.1.2.2.1) ∧ (u_167.1.2.2.1 ≤ ln) ∧ (0 ≤ u_167.1.2.2.2.1 ∧ u_167.1.2.2.2.1 ≤ 4) ∧ (-2147483648 ≤ u_167.1.2.2.2.2.1 ∧ u_167.1.2.2.2.2.1 < 2147483648) ∧ (-1 ≤ u_167.1.2.2.2.2.2.1 ∧ u_167.1.2.2.2.2.2.1 ≤ 24) from (by first | with_reducible assumption | exact ⟨⟨by omega, by omega⟩, ⟨by omega, by omega⟩, ⟨by omega, by omega⟩, by omega, ⟨by omega, by omega⟩, ⟨by omega, by omega⟩, by omega, by omega⟩)), (show ((0 : Int) = 1 ∧ ∃ (q9 a9 b9 c9 : Int), xTe (tX bf ln) N n cu = .inr (q9, a9, b9, c9) ∧ cu ≤ q9 ∧ RDX (tX bf ln) q9 u_167.1.2.1 u_167.1.2.2.1 u_167.1.2.2.2.1 u_167.1.2.2.2.2.1 u_167.1.2.2.2.2.2.1 u_167.2.1.2 ∧ (YF f_153 y1f a6 a9 ∧ YF f_193 y2f a6 b9 ∧ YF y3f y3f a6 c9) ∧ u_167.1.2.2.2.2.2.2.1 = fk ∧ u_167.1.2.2.2.2.2.2.2 = fp) ∨ ((0 : Int) = 0 ∧ xTe (tX bf ln) N n cu = .inl (u_167.1.2.2.2.2.2.2.1, u_167.1.2.2.2.2.2.2.2)) from (Or.inr ⟨rfl, xTe_20a (show xKw (tX bf ln) cu = 20 from (by omega)) st_170⟩))⟩ (hP.sub [0, 1, 8, 9, 10, 2, 3, 4, 5, 6, 7, 11, 12] rfl) (hD.sub [0, 1, 8, 9, 10, 2, 3, 4, 5, 6, 7, 11, 12] rfl rfl) dX10_readTest_112
        ·
          have c_154 := (zeq (x := iZ ke) (y := iZ 15) rfl rfl ⟨by omega, by omega⟩ wn_15).mp c_154
          refine lv_aload_n hx hb dX10_readTest_58 rfl (lv_at hl 1 rfl) ?_
          refine va_get (D := D) (ci := 10) (v := .ref hr1) (C := RX10) (T := TX10) (N := 5) hx hb hts iX10 hown hK hP 0 rfl rfl 0 (bl rfl) (hts _ qf_X10_15) (fun _ h => h) rfl dX10_readTest_59 ?_
          refine CWV (As := []) (rest := []) (wc := _) (wr := [(hv, .inr (10, [.ref hr1, .ref oo, .int (iZ de), .ref hy, .ref hs])), (oo, .inl (k 1, 3, .inl of0)), (hy, .inr (9, [.ref yw, .ref y1, .ref y2, .ref y3, .ref yp, .int (iZ th), .int (iZ ys), .int (iZ yr)])), (yw, .inl (k 1, 60, .inl ywf)), (y1, .inl (k 1, 60, .inl f_153)), (y2, .inl (k 1, 60, .inl y2f)), (y3, .inl (k 1, 60, .inl y3f)), (yp, .inl (k 1, 60, .inl ypf)), (hs, .inr (5, [.ref hN, .ref hf, .ref hg, .int (iZ n), .int (iZ ni), .int (iZ lw), .int (iZ we)])), (hN, .inl (k 2, 6, .inr (.inl nf)))]) hx hb hml hown hts hKK hP hD hS hA (x_takeCompares l D k hr1 tx kw tp ln u_147.1.2.1 u_147.1.2.2.1 u_147.1.2.2.2.1 u_147.1.2.2.2.2.1 u_147.1.2.2.2.2.2 fk fp u_147.2.1.2 bf kwf (xEn (tX bf ln) cu) (by first | with_reducible assumption | exact ⟨⟨by omega, by omega⟩, ⟨by omega, by omega⟩, ⟨by omega, by omega⟩, by omega, ⟨by omega, by omega⟩, ⟨by omega, by omega⟩, by omega, by omega⟩) hbf hkw rx_150) ci_X4_takeCompares qm_X10_99 ⟨Nat.le_of_ble_eq_true rfl, Nat.le_of_ble_eq_true rfl⟩ ⟨Nat.le_of_ble_eq_true rfl, Nat.le_of_ble_eq_true rfl⟩ [10, 11, 12] [0, 1, 2, 3, 4, 5, 6, 7, 8, 9] rfl rfl rfl rfl rfl (dj rfl) 0 rfl rfl rfl hl.1 rfl (Nat.le_of_ble_eq_true rfl) dX10_readTest_62 (fun u_196 H locs hφ hP hD hS => ?_)
          obtain ⟨p_197, p_198⟩ : ((0 ≤ tp ∧ tp ≤ 900) ∧ (0 ≤ ln ∧ ln ≤ 900) ∧ (0 ≤ u_196.1.2.1 ∧ u_196.1.2.1 ≤ u_196.1.2.2.1) ∧ (u_196.1.2.2.1 ≤ ln) ∧ (0 ≤ u_196.1.2.2.2.1 ∧ u_196.1.2.2.2.1 ≤ 4) ∧ (-2147483648 ≤ u_196.1.2.2.2.2.1 ∧ u_196.1.2.2.2.2.1 < 2147483648) ∧ (-1 ≤ u_196.1.2.2.2.2.2.1 ∧ u_196.1.2.2.2.2.2.1 ≤ 24)) ∧ ((¬ (u_196.1.1 : Int) = -1 ∧ ∃ q9 : Int, xTc (tX bf ln) (xEn (tX bf ln) cu) = .inr (q9, u_196.1.1) ∧ (xEn (tX bf ln) cu) < q9 ∧ RDX (tX bf ln) q9 u_196.1.2.1 u_196.1.2.2.1 u_196.1.2.2.2.1 u_196.1.2.2.2.2.1 u_196.1.2.2.2.2.2.1 u_196.2.1.2 ∧ (60 ≤ u_196.1.1 ∧ u_196.1.1 ≤ 62) ∧ u_196.1.2.2.2.2.2.2.1 = fk ∧ u_196.1.2.2.2.2.2.2.2 = fp) ∨ ((u_196.1.1 : Int) = -1 ∧ xTc (tX bf ln) (xEn (tX bf ln) cu) = .inl (u_196.1.2.2.2.2.2.2.1, u_196.1.2.2.2.2.2.2.2))) := hφ
          refine W.eq (g2 := F0 m 65 ls [.int (iZ u_196.1.1)]) rfl ?_
          rcases p_198 with ⟨qt_199, cut_199, st_199, lt_199, xt_199, rt_199, ut_199, vt_199⟩ | ⟨qt_199, st_199⟩
          ·
            obtain ⟨⟨ar_200, br_200⟩, cr_200, dr_200, er_200, fr_200, gr_200, hr_200⟩ := id xt_199
            refine lv_goto (tgt := 80) hx hb dX10_readTest_65 rfl ?_
            refine lv_istore_n (lv' := [(3, .int (iZ u_196.1.1)), (2, .int (iZ ke)), (0, .ref hv), (1, .int (iZ a6))]) hx hb dX10_readTest_80 rfl hl (bl rfl) rfl (fun ls hl => ?_)
            refine lv_aload_n hx hb dX10_readTest_81 rfl (lv_at hl 2 rfl) ?_
            refine va_get (D := D) (ci := 10) (v := .ref hy) (C := RX10) (T := TX10) (N := 5) hx hb hts iX10 hown hK hP 0 rfl rfl 3 (bl rfl) (hts _ qf_X10_19) (fun _ h => h) rfl dX10_readTest_82 ?_
            refine va_get (D := D) (ci := 9) (v := .ref y2) (C := RX9) (T := TX9) (N := 8) hx hb hts iX9 hown hK hP 2 rfl rfl 2 (bl rfl) (hts _ qf_X10_93) (fun _ h => h) rfl dX10_readTest_85 ?_
            refine lv_iload_n hx hb dX10_readTest_88 rfl (lv_at hl 3 rfl) ?_
            refine lv_iload_n hx hb dX10_readTest_89 rfl (lv_at hl 0 rfl) ?_
            refine va_iast hx hb hK hP hD hS 5 1 rfl rfl (zin (e := a6) (n := 60) ⟨by omega, by omega⟩ (bl rfl)) dX10_readTest_90 (fun H locs hP hD hS => ?_)
            obtain ⟨f_201, hf_201⟩ : ∃ gg9, gg9 = upd y2f (iZ a6).toNatClampNeg (iZ u_196.1.1) := ⟨_, rfl⟩
            rw [← hf_201] at hP hD
            refine lv_iload_n hx hb dX10_readTest_91 rfl (lv_at hl 0 rfl) ?_
            refine lv_iconst (v := iZ (-1)) hx hb dX10_readTest_92 rfl ?_
            refine lv_icmp_eq (tgt := 102) hx hb dX10_readTest_93 rfl (fun c_202 => ?_) (fun c_202 => ?_)
            ·
              have c_202 := (zeq (x := iZ u_196.1.1) (y := iZ (-1)) rfl rfl ⟨by omega, by omega⟩ wn_m1).mp c_202
              exact absurd c_202 (by omega)
            ·
              have c_202 := mt (zeq (x := iZ u_196.1.1) (y := iZ (-1)) rfl rfl ⟨by omega, by omega⟩ wn_m1).mpr c_202
              refine lv_iload_n hx hb dX10_readTest_96 rfl (lv_at hl 1 rfl) ?_
              refine lv_bipush (v := iZ 7) hx hb dX10_readTest_97 bip_7 ?_
              refine lv_icmp_ne (tgt := 113) hx hb dX10_readTest_99 rfl (fun c_203 => ?_) (fun c_203 => ?_)
              ·
                have c_203 := mt (zeq (x := iZ ke) (y := iZ 7) rfl rfl ⟨by omega, by omega⟩ wn_7).mpr c_203
                refine lv_iload_n hx hb dX10_readTest_113 rfl (lv_at hl 1 rfl) ?_
                refine lv_bipush (v := iZ 20) hx hb dX10_readTest_114 bip_20 ?_
                refine lv_icmp_ne (tgt := 133) hx hb dX10_readTest_116 rfl (fun c_204 => ?_) (fun c_204 => ?_)
                ·
                  have c_204 := mt (zeq (x := iZ ke) (y := iZ 20) rfl rfl ⟨by omega, by omega⟩ wn_20).mpr c_204
                  refine lv_iload_n hx hb dX10_readTest_133 rfl (lv_at hl 1 rfl) ?_
                  refine lv_bipush (v := iZ 15) hx hb dX10_readTest_134 bip_15 ?_
                  refine lv_icmp_ne (tgt := 153) hx hb dX10_readTest_136 rfl (fun c_205 => ?_) (fun c_205 => ?_)
                  ·
                    have c_205 := mt (zeq (x := iZ ke) (y := iZ 15) rfl rfl ⟨by omega, by omega⟩ wn_15).mpr c_205
                    exact absurd c_205 (by omega)
                  ·
                    have c_205 := (zeq (x := iZ ke) (y := iZ 15) rfl rfl ⟨by omega, by omega⟩ wn_15).mp c_205
                    refine lv_aload_n hx hb dX10_readTest_139 rfl (lv_at hl 2 rfl) ?_
                    refine va_get (D := D) (ci := 10) (v := .ref hr1) (C := RX10) (T := TX10) (N := 5) hx hb hts iX10 hown hK hP 0 rfl rfl 0 (bl rfl) (hts _ qf_X10_15) (fun _ h => h) rfl dX10_readTest_140 ?_
                    refine lv_iconst (v := iZ 0) hx hb dX10_readTest_143 rfl ?_
                    refine lv_sipush (v := iZ 400) hx hb dX10_readTest_144 sip_400 ?_
                    refine CWV (As := [.int (iZ 0), .int (iZ 400)]) (rest := []) (wc := _) (wr := [(hv, .inr (10, [.ref hr1, .ref oo, .int (iZ de), .ref hy, .ref hs])), (oo, .inl (k 1, 3, .inl of0)), (hy, .inr (9, [.ref yw, .ref y1, .ref y2, .ref y3, .ref yp, .int (iZ th), .int (iZ ys), .int (iZ yr)])), (yw, .inl (k 1, 60, .inl ywf)), (y1, .inl (k 1, 60, .inl f_153)), (y2, .inl (k 1, 60, .inl f_201)), (y3, .inl (k 1, 60, .inl y3f)), (yp, .inl (k 1, 60, .inl ypf)), (hs, .inr (5, [.ref hN, .ref hf, .ref hg, .int (iZ n), .int (iZ ni), .int (iZ lw), .int (iZ we)])), (hN, .inl (k 2, 6, .inr (.inl nf)))]) hx hb hml hown hts hKK hP hD hS hA (x_takeNumber l D k hr1 tx kw tp ln u_196.1.2.1 u_196.1.2.2.1 u_196.1.2.2.2.1 u_196.1.2.2.2.2.1 u_196.1.2.2.2.2.2.1 u_196.1.2.2.2.2.2.2.1 u_196.1.2.2.2.2.2.2.2 u_196.2.1.2 bf kwf cut_199 0 400 (by first | with_reducible assumption | exact ⟨⟨by omega, by omega⟩, ⟨by omega, by omega⟩, ⟨by omega, by omega⟩, by omega, ⟨by omega, by omega⟩, ⟨by omega, by omega⟩, by omega, by omega⟩) hbf hkw xt_199 ⟨by omega, by omega⟩ ⟨by omega, by omega⟩) ci_X4_takeNumber qm_X10_85 ⟨Nat.le_of_ble_eq_true rfl, Nat.le_of_ble_eq_true rfl⟩ ⟨Nat.le_of_ble_eq_true rfl, Nat.le_of_ble_eq_true rfl⟩ [10, 11, 12] [0, 1, 2, 3, 4, 5, 6, 7, 8, 9] rfl rfl rfl rfl rfl (dj rfl) 0 rfl rfl rfl hl.1 rfl (Nat.le_of_ble_eq_true rfl) dX10_readTest_147 (fun u_206 H locs hφ hP hD hS => ?_)
                    obtain ⟨p_207, p_208⟩ : ((0 ≤ tp ∧ tp ≤ 900) ∧ (0 ≤ ln ∧ ln ≤ 900) ∧ (0 ≤ u_206.1.2.1 ∧ u_206.1.2.1 ≤ u_206.1.2.2.1) ∧ (u_206.1.2.2.1 ≤ ln) ∧ (0 ≤ u_206.1.2.2.2.1 ∧ u_206.1.2.2.2.1 ≤ 4) ∧ (-2147483648 ≤ u_206.1.2.2.2.2.1 ∧ u_206.1.2.2.2.2.1 < 2147483648) ∧ (-1 ≤ u_206.1.2.2.2.2.2.1 ∧ u_206.1.2.2.2.2.2.1 ≤ 24)) ∧ ((¬ (u_206.1.1 : Int) = -1 ∧ ∃ q9 : Int, xTn (tX bf ln) 0 400 cut_199 = .inr (q9, u_206.1.1) ∧ cut_199 < q9 ∧ RDX (tX bf ln) q9 u_206.1.2.1 u_206.1.2.2.1 u_206.1.2.2.2.1 u_206.1.2.2.2.2.1 u_206.1.2.2.2.2.2.1 u_206.2.1.2 ∧ (0 ≤ u_206.1.1 ∧ u_206.1.1 ≤ 400) ∧ u_206.1.2.2.2.2.2.2.1 = u_196.1.2.2.2.2.2.2.1 ∧ u_206.1.2.2.2.2.2.2.2 = u_196.1.2.2.2.2.2.2.2) ∨ ((u_206.1.1 : Int) = -1 ∧ xTn (tX bf ln) 0 400 cut_199 = .inl (u_206.1.2.2.2.2.2.2.1, u_206.1.2.2.2.2.2.2.2))) := hφ
                    refine W.eq (g2 := F0 m 150 ls [.int (iZ u_206.1.1)]) rfl ?_
                    rcases p_208 with ⟨qt_209, cut_209, st_209, lt_209, xt_209, rt_209, ut_209, vt_209⟩ | ⟨qt_209, st_209⟩
                    ·
                      obtain ⟨⟨ar_210, br_210⟩, cr_210, dr_210, er_210, fr_210, gr_210, hr_210⟩ := id xt_209
                      refine lv_goto (tgt := 165) hx hb dX10_readTest_150 rfl ?_
                      refine lv_istore (lv' := [(4, .int (iZ u_206.1.1)), (3, .int (iZ u_196.1.1)), (2, .int (iZ ke)), (0, .ref hv), (1, .int (iZ a6))]) hx hb dX10_readTest_165 hl (bl rfl) rfl (fun ls hl => ?_)
                      refine lv_aload_n hx hb dX10_readTest_167 rfl (lv_at hl 3 rfl) ?_
                      refine va_get (D := D) (ci := 10) (v := .ref hy) (C := RX10) (T := TX10) (N := 5) hx hb hts iX10 hown hK hP 0 rfl rfl 3 (bl rfl) (hts _ qf_X10_19) (fun _ h => h) rfl dX10_readTest_168 ?_
                      refine va_get (D := D) (ci := 9) (v := .ref y3) (C := RX9) (T := TX9) (N := 8) hx hb hts iX9 hown hK hP 2 rfl rfl 3 (bl rfl) (hts _ qf_X10_106) (fun _ h => h) rfl dX10_readTest_171 ?_
                      refine lv_iload_n hx hb dX10_readTest_174 rfl (lv_at hl 4 rfl) ?_
                      refine lv_iload hx hb dX10_readTest_175 (lv_at hl 0 rfl) ?_
                      refine va_iast hx hb hK hP hD hS 6 1 rfl rfl (zin (e := a6) (n := 60) ⟨by omega, by omega⟩ (bl rfl)) dX10_readTest_177 (fun H locs hP hD hS => ?_)
                      obtain ⟨f_211, hf_211⟩ : ∃ gg9, gg9 = upd y3f (iZ a6).toNatClampNeg (iZ u_206.1.1) := ⟨_, rfl⟩
                      rw [← hf_211] at hP hD
                      refine lv_iload hx hb dX10_readTest_178 (lv_at hl 0 rfl) ?_
                      refine lv_iconst (v := iZ (-1)) hx hb dX10_readTest_180 rfl ?_
                      refine lv_icmp_eq (tgt := 188) hx hb dX10_readTest_181 rfl (fun c_212 => ?_) (fun c_212 => ?_)
                      ·
                        have c_212 := (zeq (x := iZ u_206.1.1) (y := iZ (-1)) rfl rfl ⟨by omega, by omega⟩ wn_m1).mp c_212
                        exact absurd c_212 (by omega)
                      ·
                        have c_212 := mt (zeq (x := iZ u_206.1.1) (y := iZ (-1)) rfl rfl ⟨by omega, by omega⟩ wn_m1).mpr c_212
                        refine lv_iconst (v := iZ 1) hx hb dX10_readTest_184 rfl ?_
                        refine lv_goto (tgt := 189) hx hb dX10_readTest_185 rfl ?_
                        exact EWz hx hb hr hlocks hS ((1, u_206.1.2.1, u_206.1.2.2.1, u_206.1.2.2.2.1, u_206.1.2.2.2.2.1, u_206.1.2.2.2.2.2.1, u_206.1.2.2.2.2.2.2.1, u_206.1.2.2.2.2.2.2.2), (0, u_206.2.1.2), (f_153, f_201, f_211), ()) rfl rfl ⟨(show (0 ≤ tp ∧ tp ≤ 900) ∧ (0 ≤ ln ∧ ln ≤ 900) ∧ (0 ≤ u_206.1.2.1 ∧ u_206.1.2.1 ≤ u_206.1.2.2.1) ∧ (u_206.1.2.2.1 ≤ ln) ∧ (0 ≤ u_206.1.2.2.2.1 ∧ u_206.1.2.2.2.1 ≤ 4) ∧ (-2147483648 ≤ u_206.1.2.2.2.2.1 ∧ u_206.1.2.2.2.2.1 < 2147483648) ∧ (-1 ≤ u_206.1.2.2.2.2.2.1 ∧ u_206.1.2.2.2.2.2.1 ≤ 24) from (by first | with_reducible assumption | exact ⟨⟨by omega, by omega⟩, ⟨by omega, by omega⟩, ⟨by omega, by omega⟩, by omega, ⟨by omega, by omega⟩, ⟨by omega, by omega⟩, by omega, by omega⟩)), (show ((1 : Int) = 1 ∧ ∃ (q9 a9 b9 c9 : Int), xTe (tX bf ln) N n cu = .inr (q9, a9, b9, c9) ∧ cu ≤ q9 ∧ RDX (tX bf ln) q9 u_206.1.2.1 u_206.1.2.2.1 u_206.1.2.2.2.1 u_206.1.2.2.2.2.1 u_206.1.2.2.2.2.2.1 u_206.2.1.2 ∧ (YF f_153 y1f a6 a9 ∧ YF f_201 y2f a6 b9 ∧ YF f_211 y3f a6 c9) ∧ u_206.1.2.2.2.2.2.2.1 = fk ∧ u_206.1.2.2.2.2.2.2.2 = fp) ∨ ((1 : Int) = 0 ∧ xTe (tX bf ln) N n cu = .inl (u_206.1.2.2.2.2.2.2.1, u_206.1.2.2.2.2.2.2.2)) from (Or.inl ⟨rfl, _, _, _, _, xTe_15 (show xKw (tX bf ln) cu = 15 from (by omega)) st_199 st_209, by omega, xt_209, ⟨(Or.inr ⟨ke, by omega, hf_153⟩), (Or.inr ⟨u_196.1.1, by omega, hf_201⟩), (Or.inr ⟨u_206.1.1, by omega, hf_211⟩)⟩, by omega, by omega⟩))⟩ (hP.sub [0, 1, 10, 11, 12, 2, 3, 4, 5, 6, 7, 8, 9] rfl) (hD.sub [0, 1, 10, 11, 12, 2, 3, 4, 5, 6, 7, 8, 9] rfl rfl) dX10_readTest_189
                    ·
                      rw [qt_209]
                      refine lv_goto (tgt := 165) hx hb dX10_readTest_150 rfl ?_
                      refine lv_istore (lv' := [(4, .int (iZ (-1))), (3, .int (iZ u_196.1.1)), (2, .int (iZ ke)), (0, .ref hv), (1, .int (iZ a6))]) hx hb dX10_readTest_165 hl (bl rfl) rfl (fun ls hl => ?_)
                      refine lv_aload_n hx hb dX10_readTest_167 rfl (lv_at hl 3 rfl) ?_
                      refine va_get (D := D) (ci := 10) (v := .ref hy) (C := RX10) (T := TX10) (N := 5) hx hb hts iX10 hown hK hP 0 rfl rfl 3 (bl rfl) (hts _ qf_X10_19) (fun _ h => h) rfl dX10_readTest_168 ?_
                      refine va_get (D := D) (ci := 9) (v := .ref y3) (C := RX9) (T := TX9) (N := 8) hx hb hts iX9 hown hK hP 2 rfl rfl 3 (bl rfl) (hts _ qf_X10_106) (fun _ h => h) rfl dX10_readTest_171 ?_
                      refine lv_iload_n hx hb dX10_readTest_174 rfl (lv_at hl 4 rfl) ?_
                      refine lv_iload hx hb dX10_readTest_175 (lv_at hl 0 rfl) ?_
                      refine va_iast hx hb hK hP hD hS 6 1 rfl rfl (zin (e := a6) (n := 60) ⟨by omega, by omega⟩ (bl rfl)) dX10_readTest_177 (fun H locs hP hD hS => ?_)
                      obtain ⟨f_213, hf_213⟩ : ∃ gg9, gg9 = upd y3f (iZ a6).toNatClampNeg (iZ (-1)) := ⟨_, rfl⟩
                      rw [← hf_213] at hP hD
                      refine lv_iload hx hb dX10_readTest_178 (lv_at hl 0 rfl) ?_
                      refine lv_iconst (v := iZ (-1)) hx hb dX10_readTest_180 rfl ?_
                      refine lv_icmp_eq (tgt := 188) hx hb dX10_readTest_181 rfl (fun _ => ?_) (fun c => absurd (by decide) c)
                      refine lv_iconst (v := iZ 0) hx hb dX10_readTest_188 rfl ?_
                      exact EWz hx hb hr hlocks hS ((0, u_206.1.2.1, u_206.1.2.2.1, u_206.1.2.2.2.1, u_206.1.2.2.2.2.1, u_206.1.2.2.2.2.2.1, u_206.1.2.2.2.2.2.2.1, u_206.1.2.2.2.2.2.2.2), (0, u_206.2.1.2), (f_153, f_201, f_213), ()) rfl rfl ⟨(show (0 ≤ tp ∧ tp ≤ 900) ∧ (0 ≤ ln ∧ ln ≤ 900) ∧ (0 ≤ u_206.1.2.1 ∧ u_206.1.2.1 ≤ u_206.1.2.2.1) ∧ (u_206.1.2.2.1 ≤ ln) ∧ (0 ≤ u_206.1.2.2.2.1 ∧ u_206.1.2.2.2.1 ≤ 4) ∧ (-2147483648 ≤ u_206.1.2.2.2.2.1 ∧ u_206.1.2.2.2.2.1 < 2147483648) ∧ (-1 ≤ u_206.1.2.2.2.2.2.1 ∧ u_206.1.2.2.2.2.2.1 ≤ 24) from (by first | with_reducible assumption | exact ⟨⟨by omega, by omega⟩, ⟨by omega, by omega⟩, ⟨by omega, by omega⟩, by omega, ⟨by omega, by omega⟩, ⟨by omega, by omega⟩, by omega, by omega⟩)), (show ((0 : Int) = 1 ∧ ∃ (q9 a9 b9 c9 : Int), xTe (tX bf ln) N n cu = .inr (q9, a9, b9, c9) ∧ cu ≤ q9 ∧ RDX (tX bf ln) q9 u_206.1.2.1 u_206.1.2.2.1 u_206.1.2.2.2.1 u_206.1.2.2.2.2.1 u_206.1.2.2.2.2.2.1 u_206.2.1.2 ∧ (YF f_153 y1f a6 a9 ∧ YF f_201 y2f a6 b9 ∧ YF f_213 y3f a6 c9) ∧ u_206.1.2.2.2.2.2.2.1 = fk ∧ u_206.1.2.2.2.2.2.2.2 = fp) ∨ ((0 : Int) = 0 ∧ xTe (tX bf ln) N n cu = .inl (u_206.1.2.2.2.2.2.2.1, u_206.1.2.2.2.2.2.2.2)) from (Or.inr ⟨rfl, xTe_15b (show xKw (tX bf ln) cu = 15 from (by omega)) st_199 st_209⟩))⟩ (hP.sub [0, 1, 10, 11, 12, 2, 3, 4, 5, 6, 7, 8, 9] rfl) (hD.sub [0, 1, 10, 11, 12, 2, 3, 4, 5, 6, 7, 8, 9] rfl rfl) dX10_readTest_189
                ·
                  have c_204 := (zeq (x := iZ ke) (y := iZ 20) rfl rfl ⟨by omega, by omega⟩ wn_20).mp c_204
                  exact absurd c_204 (by omega)
              ·
                have c_203 := (zeq (x := iZ ke) (y := iZ 7) rfl rfl ⟨by omega, by omega⟩ wn_7).mp c_203
                exact absurd c_203 (by omega)
          ·
            rw [qt_199]
            refine lv_goto (tgt := 80) hx hb dX10_readTest_65 rfl ?_
            refine lv_istore_n (lv' := [(3, .int (iZ (-1))), (2, .int (iZ ke)), (0, .ref hv), (1, .int (iZ a6))]) hx hb dX10_readTest_80 rfl hl (bl rfl) rfl (fun ls hl => ?_)
            refine lv_aload_n hx hb dX10_readTest_81 rfl (lv_at hl 2 rfl) ?_
            refine va_get (D := D) (ci := 10) (v := .ref hy) (C := RX10) (T := TX10) (N := 5) hx hb hts iX10 hown hK hP 0 rfl rfl 3 (bl rfl) (hts _ qf_X10_19) (fun _ h => h) rfl dX10_readTest_82 ?_
            refine va_get (D := D) (ci := 9) (v := .ref y2) (C := RX9) (T := TX9) (N := 8) hx hb hts iX9 hown hK hP 2 rfl rfl 2 (bl rfl) (hts _ qf_X10_93) (fun _ h => h) rfl dX10_readTest_85 ?_
            refine lv_iload_n hx hb dX10_readTest_88 rfl (lv_at hl 3 rfl) ?_
            refine lv_iload_n hx hb dX10_readTest_89 rfl (lv_at hl 0 rfl) ?_
            refine va_iast hx hb hK hP hD hS 5 1 rfl rfl (zin (e := a6) (n := 60) ⟨by omega, by omega⟩ (bl rfl)) dX10_readTest_90 (fun H locs hP hD hS => ?_)
            obtain ⟨f_215, hf_215⟩ : ∃ gg9, gg9 = upd y2f (iZ a6).toNatClampNeg (iZ (-1)) := ⟨_, rfl⟩
            rw [← hf_215] at hP hD
            refine lv_iload_n hx hb dX10_readTest_91 rfl (lv_at hl 0 rfl) ?_
            refine lv_iconst (v := iZ (-1)) hx hb dX10_readTest_92 rfl ?_
            refine lv_icmp_eq (tgt := 102) hx hb dX10_readTest_93 rfl (fun _ => ?_) (fun c => absurd (by decide) c)
            refine lv_iload_n hx hb dX10_readTest_102 rfl (lv_at hl 0 rfl) ?_
            refine lv_iconst (v := iZ (-1)) hx hb dX10_readTest_103 rfl ?_
            refine lv_icmp_eq (tgt := 111) hx hb dX10_readTest_104 rfl (fun _ => ?_) (fun c => absurd (by decide) c)
            refine lv_iconst (v := iZ 0) hx hb dX10_readTest_111 rfl ?_
            exact EWz hx hb hr hlocks hS ((0, u_196.1.2.1, u_196.1.2.2.1, u_196.1.2.2.2.1, u_196.1.2.2.2.2.1, u_196.1.2.2.2.2.2.1, u_196.1.2.2.2.2.2.2.1, u_196.1.2.2.2.2.2.2.2), (0, u_196.2.1.2), (f_153, f_215, y3f), ()) rfl rfl ⟨(show (0 ≤ tp ∧ tp ≤ 900) ∧ (0 ≤ ln ∧ ln ≤ 900) ∧ (0 ≤ u_196.1.2.1 ∧ u_196.1.2.1 ≤ u_196.1.2.2.1) ∧ (u_196.1.2.2.1 ≤ ln) ∧ (0 ≤ u_196.1.2.2.2.1 ∧ u_196.1.2.2.2.1 ≤ 4) ∧ (-2147483648 ≤ u_196.1.2.2.2.2.1 ∧ u_196.1.2.2.2.2.1 < 2147483648) ∧ (-1 ≤ u_196.1.2.2.2.2.2.1 ∧ u_196.1.2.2.2.2.2.1 ≤ 24) from (by first | with_reducible assumption | exact ⟨⟨by omega, by omega⟩, ⟨by omega, by omega⟩, ⟨by omega, by omega⟩, by omega, ⟨by omega, by omega⟩, ⟨by omega, by omega⟩, by omega, by omega⟩)), (show ((0 : Int) = 1 ∧ ∃ (q9 a9 b9 c9 : Int), xTe (tX bf ln) N n cu = .inr (q9, a9, b9, c9) ∧ cu ≤ q9 ∧ RDX (tX bf ln) q9 u_196.1.2.1 u_196.1.2.2.1 u_196.1.2.2.2.1 u_196.1.2.2.2.2.1 u_196.1.2.2.2.2.2.1 u_196.2.1.2 ∧ (YF f_153 y1f a6 a9 ∧ YF f_215 y2f a6 b9 ∧ YF y3f y3f a6 c9) ∧ u_196.1.2.2.2.2.2.2.1 = fk ∧ u_196.1.2.2.2.2.2.2.2 = fp) ∨ ((0 : Int) = 0 ∧ xTe (tX bf ln) N n cu = .inl (u_196.1.2.2.2.2.2.2.1, u_196.1.2.2.2.2.2.2.2)) from (Or.inr ⟨rfl, xTe_15a (show xKw (tX bf ln) cu = 15 from (by omega)) st_199⟩))⟩ (hP.sub [0, 1, 10, 11, 12, 2, 3, 4, 5, 6, 7, 8, 9] rfl) (hD.sub [0, 1, 10, 11, 12, 2, 3, 4, 5, 6, 7, 8, 9] rfl rfl) dX10_readTest_112
      ·
        have c_146 := mt (zeq (x := iZ ke) (y := iZ 20) rfl rfl ⟨by omega, by omega⟩ wn_20).mpr c_146
        refine lv_aload_n hx hb dX10_readTest_26 rfl (lv_at hl 1 rfl) ?_
        refine va_get (D := D) (ci := 10) (v := .ref hr1) (C := RX10) (T := TX10) (N := 5) hx hb hts iX10 hown hK hP 0 rfl rfl 0 (bl rfl) (hts _ qf_X10_15) (fun _ h => h) rfl dX10_readTest_27 ?_
        refine lv_iconst (v := iZ 2) hx hb dX10_readTest_30 rfl ?_
        refine CWV (As := [.int (iZ 2)]) (rest := []) (wc := _) (wr := [(hv, .inr (10, [.ref hr1, .ref oo, .int (iZ de), .ref hy, .ref hs])), (oo, .inl (k 1, 3, .inl of0)), (hy, .inr (9, [.ref yw, .ref y1, .ref y2, .ref y3, .ref yp, .int (iZ th), .int (iZ ys), .int (iZ yr)])), (yw, .inl (k 1, 60, .inl ywf)), (y1, .inl (k 1, 60, .inl y1f)), (y2, .inl (k 1, 60, .inl y2f)), (y3, .inl (k 1, 60, .inl y3f)), (yp, .inl (k 1, 60, .inl ypf)), (hs, .inr (5, [.ref hN, .ref hf, .ref hg, .int (iZ n), .int (iZ ni), .int (iZ lw), .int (iZ we)])), (hN, .inl (k 2, 6, .inr (.inl nf)))]) hx hb hml hown hts hKK hP hD hS hA (x_fail l D k hr1 tx kw tp ln pl en ki va ke fk fp nm bf kwf cu 2 (by first | with_reducible assumption | exact ⟨⟨by omega, by omega⟩, ⟨by omega, by omega⟩, ⟨by omega, by omega⟩, by omega, ⟨by omega, by omega⟩, ⟨by omega, by omega⟩, by omega, by omega⟩) hrx) ci_X4_fail qm_X10_51 ⟨Nat.le_of_ble_eq_true rfl, Nat.le_of_ble_eq_true rfl⟩ ⟨Nat.le_of_ble_eq_true rfl, Nat.le_of_ble_eq_true rfl⟩ [2, 3, 4] [0, 1, 5, 6, 7, 8, 9, 10, 11, 12] rfl rfl rfl rfl rfl (dj rfl) 0 rfl rfl rfl hl.1 rfl (Nat.le_of_ble_eq_true rfl) dX10_readTest_31 (fun u_218 H locs hφ hP hD hS => ?_)
        have p_219 : u_218.1.2.1 = xFl (tX bf ln) cu 2 ∧ u_218.1.2.2 = xPl (tX bf ln) cu := hφ
        refine W.eq (g2 := F0 m 34 ls [.int (iZ 0)]) rfl ?_
        exact EWz hx hb hr hlocks hS ((0, pl, en, ki, va, ke, u_218.1.2.1, u_218.1.2.2), (0, nm), (y1f, y2f, y3f), ()) rfl rfl ⟨(show (0 ≤ tp ∧ tp ≤ 900) ∧ (0 ≤ ln ∧ ln ≤ 900) ∧ (0 ≤ pl ∧ pl ≤ en) ∧ (en ≤ ln) ∧ (0 ≤ ki ∧ ki ≤ 4) ∧ (-2147483648 ≤ va ∧ va < 2147483648) ∧ (-1 ≤ ke ∧ ke ≤ 24) from (by first | with_reducible assumption | exact ⟨⟨by omega, by omega⟩, ⟨by omega, by omega⟩, ⟨by omega, by omega⟩, by omega, ⟨by omega, by omega⟩, ⟨by omega, by omega⟩, by omega, by omega⟩)), (show ((0 : Int) = 1 ∧ ∃ (q9 a9 b9 c9 : Int), xTe (tX bf ln) N n cu = .inr (q9, a9, b9, c9) ∧ cu ≤ q9 ∧ RDX (tX bf ln) q9 pl en ki va ke nm ∧ (YF y1f y1f a6 a9 ∧ YF y2f y2f a6 b9 ∧ YF y3f y3f a6 c9) ∧ u_218.1.2.1 = fk ∧ u_218.1.2.2 = fp) ∨ ((0 : Int) = 0 ∧ xTe (tX bf ln) N n cu = .inl (u_218.1.2.1, u_218.1.2.2)) from (Or.inr ⟨rfl, xTe_x (by omega) p_219⟩))⟩ (hP.sub [0, 1, 10, 11, 12, 2, 3, 4, 5, 6, 7, 8, 9] rfl) (hD.sub [0, 1, 10, 11, 12, 2, 3, 4, 5, 6, 7, 8, 9] rfl rfl) dX10_readTest_34
set_option maxHeartbeats 4000000 in
set_option maxRecDepth 100000 in
theorem x_readRest (l : Launch) (D : va_G) (k : Nat → ClassId) (hv : Nat) (oo : Nat) (hr1 : Nat) (tx : Nat) (kw : Nat) (hs : Nat) (hN : Nat) (hf : Nat) (hg : Nat) (de : Int) (of0 : Nat → Int32) (tp : Int) (ln : Int) (pl : Int) (en : Int) (ki : Int) (va : Int) (ke : Int) (fk : Int) (fp : Int) (nm : Int64) (bf : Nat → Int32) (kwf : Nat → Int64) (hy : Nat) (yw : Nat) (y1 : Nat) (y2 : Nat) (y3 : Nat) (yp : Nat) (th : Int) (ys : Int) (yr : Int) (ywf : Nat → Int32) (y1f : Nat → Int32) (y2f : Nat → Int32) (y3f : Nat → Int32) (ypf : Nat → Int32) (n : Int) (ni : Int) (lw : Int) (we : Int) (nf : Nat → Int64) (cu : Int) (b6 : Int) (a6 : Int) (N : Int → Int) (hI1 : (0 ≤ tp ∧ tp ≤ 900) ∧ (0 ≤ ln ∧ ln ≤ 900) ∧ (0 ≤ pl ∧ pl ≤ en) ∧ (en ≤ ln) ∧ (0 ≤ ki ∧ ki ≤ 4) ∧ (-2147483648 ≤ va ∧ va < 2147483648) ∧ (-1 ≤ ke ∧ ke ≤ 24)) (hbf : rgI bf (-128) 127 900) (hkw : ∀ j : Nat, j < 25 → kwf j = lZ (kwC j)) (hrx : RDX (tX bf ln) cu pl en ki va ke nm) (hn : 0 ≤ n ∧ n ≤ 6) (hyr : 0 ≤ a6 ∧ a6 < 60) (hb6 : -2147483648 ≤ b6 ∧ b6 < 2147483648) (hns : xNs nf N n) : WD (σ := ((Int × Int × Int × Int × Int × Int × Int × Int) × (Int64 × Int64) × ((Nat → Int32) × (Nat → Int32) × (Nat → Int32)) × (Unit))) l yX10_readRest cX10_readRest 3 (some .boolean) 4 0 0 D k [.ref hv, .int (iZ b6), .int (iZ a6)] [(hv, .inr (10, [.ref hr1, .ref oo, .int (iZ de), .ref hy, .ref hs])), (oo, .inl (k 1, 3, .inl of0)), (hr1, .inr (4, [.ref tx, .ref kw, .int (iZ tp), .int (iZ ln), .int (iZ pl), .int (iZ en), .int (iZ ki), .int (iZ va), .int (iZ ke), .long nm, .int (iZ fk), .int (iZ fp)])), (tx, .inl (k 0, 900, .inl bf)), (kw, .inl (k 2, 25, .inr (.inl kwf))), (hy, .inr (9, [.ref yw, .ref y1, .ref y2, .ref y3, .ref yp, .int (iZ th), .int (iZ ys), .int (iZ yr)])), (yw, .inl (k 1, 60, .inl ywf)), (y1, .inl (k 1, 60, .inl y1f)), (y2, .inl (k 1, 60, .inl y2f)), (y3, .inl (k 1, 60, .inl y3f)), (yp, .inl (k 1, 60, .inl ypf)), (hs, .inr (5, [.ref hN, .ref hf, .ref hg, .int (iZ n), .int (iZ ni), .int (iZ lw), .int (iZ we)])), (hN, .inl (k 2, 6, .inr (.inl nf)))] (fun u => some (.int (iZ u.1.1))) (fun u => ((0 ≤ tp ∧ tp ≤ 900) ∧ (0 ≤ ln ∧ ln ≤ 900) ∧ (0 ≤ u.1.2.1 ∧ u.1.2.1 ≤ u.1.2.2.1) ∧ (u.1.2.2.1 ≤ ln) ∧ (0 ≤ u.1.2.2.2.1 ∧ u.1.2.2.2.1 ≤ 4) ∧ (-2147483648 ≤ u.1.2.2.2.2.1 ∧ u.1.2.2.2.2.1 < 2147483648) ∧ (-1 ≤ u.1.2.2.2.2.2.1 ∧ u.1.2.2.2.2.2.1 ≤ 24)) ∧ (((u.1.1 : Int) = 1 ∧ ∃ (q9 a9 b9 c9 : Int), xRe (tX bf ln) N n b6 cu = .inr (q9, a9, b9, c9) ∧ cu ≤ q9 ∧ RDX (tX bf ln) q9 u.1.2.1 u.1.2.2.1 u.1.2.2.2.1 u.1.2.2.2.2.1 u.1.2.2.2.2.2.1 u.2.1.2 ∧ (YF u.2.2.1.1 y1f a6 a9 ∧ YF u.2.2.1.2.1 y2f a6 b9 ∧ YF u.2.2.1.2.2 y3f a6 c9) ∧ u.1.2.2.2.2.2.2.1 = fk ∧ u.1.2.2.2.2.2.2.2 = fp) ∨ ((u.1.1 : Int) = 0 ∧ xRe (tX bf ln) N n b6 cu = .inl (u.1.2.2.2.2.2.2.1, u.1.2.2.2.2.2.2.2)))) (fun u => [(hv, .inr (10, [.ref hr1, .ref oo, .int (iZ de), .ref hy, .ref hs])), (oo, .inl (k 1, 3, .inl of0)), (hr1, .inr (4, [.ref tx, .ref kw, .int (iZ tp), .int (iZ ln), .int (iZ u.1.2.1), .int (iZ u.1.2.2.1), .int (iZ u.1.2.2.2.1), .int (iZ u.1.2.2.2.2.1), .int (iZ u.1.2.2.2.2.2.1), .long u.2.1.2, .int (iZ u.1.2.2.2.2.2.2.1), .int (iZ u.1.2.2.2.2.2.2.2)])), (tx, .inl (k 0, 900, .inl bf)), (kw, .inl (k 2, 25, .inr (.inl kwf))), (hy, .inr (9, [.ref yw, .ref y1, .ref y2, .ref y3, .ref yp, .int (iZ th), .int (iZ ys), .int (iZ yr)])), (yw, .inl (k 1, 60, .inl ywf)), (y1, .inl (k 1, 60, .inl u.2.2.1.1)), (y2, .inl (k 1, 60, .inl u.2.2.1.2.1)), (y3, .inl (k 1, 60, .inl u.2.2.1.2.2)), (yp, .inl (k 1, 60, .inl ypf)), (hs, .inr (5, [.ref hN, .ref hf, .ref hg, .int (iZ n), .int (iZ ni), .int (iZ lw), .int (iZ we)])), (hN, .inl (k 2, 6, .inr (.inl nf)))]) := by
  refine MW (by decide) (Nat.le_of_ble_eq_true rfl) (fun p e s m below meth c ls A hx hb hml hr hlocks hin hts hown hKK hP hD hS hA hl => ?_)
  have hK := hKK.1
  have hl : lv_has ls 3 [(0, .ref hv), (1, .int (iZ b6)), (2, .int (iZ a6))] := hl
  obtain ⟨⟨ar_1, br_1⟩, cr_1, dr_1, er_1, fr_1, gr_1, hr_1⟩ := id hrx
  refine lv_iload_n hx hb dX10_readRest_0 rfl (lv_at hl 1 rfl) ?_
  rcases Classical.em (b6 = 15) with c_2 | c_2
  ·
    refine lv_tableIn (tgt := 48) (off := 47) hx hb dX10_readRest_1 (by rw [iZ_ti ⟨by omega, by omega⟩]; omega) (by rw [iZ_ti ⟨by omega, by omega⟩]; omega) (by rw [iZ_ti ⟨by omega, by omega⟩, c_2]; rfl) (by decide) ?_
    refine lv_aload_n hx hb dX10_readRest_48 rfl (lv_at hl 0 rfl) ?_
    refine va_get (D := D) (ci := 10) (v := .ref hy) (C := RX10) (T := TX10) (N := 5) hx hb hts iX10 hown hK hP 0 rfl rfl 3 (bl rfl) (hts _ qf_X10_19) (fun _ h => h) rfl dX10_readRest_49 ?_
    refine va_get (D := D) (ci := 9) (v := .ref y1) (C := RX9) (T := TX9) (N := 8) hx hb hts iX9 hown hK hP 5 rfl rfl 1 (bl rfl) (hts _ qf_X10_82) (fun _ h => h) rfl dX10_readRest_52 ?_
    refine lv_iload_n hx hb dX10_readRest_55 rfl (lv_at hl 2 rfl) ?_
    refine lv_aload_n hx hb dX10_readRest_56 rfl (lv_at hl 0 rfl) ?_
    refine va_get (D := D) (ci := 10) (v := .ref hr1) (C := RX10) (T := TX10) (N := 5) hx hb hts iX10 hown hK hP 0 rfl rfl 0 (bl rfl) (hts _ qf_X10_15) (fun _ h => h) rfl dX10_readRest_57 ?_
    refine lv_iconst (v := iZ 1) hx hb dX10_readRest_60 rfl ?_
    refine lv_bipush (v := iZ 99) hx hb dX10_readRest_61 bip_99 ?_
    refine CWV (As := [.int (iZ 1), .int (iZ 99)]) (rest := [.int (iZ a6), .ref y1]) (wc := _) (wr := [(hv, .inr (10, [.ref hr1, .ref oo, .int (iZ de), .ref hy, .ref hs])), (oo, .inl (k 1, 3, .inl of0)), (hy, .inr (9, [.ref yw, .ref y1, .ref y2, .ref y3, .ref yp, .int (iZ th), .int (iZ ys), .int (iZ yr)])), (yw, .inl (k 1, 60, .inl ywf)), (y1, .inl (k 1, 60, .inl y1f)), (y2, .inl (k 1, 60, .inl y2f)), (y3, .inl (k 1, 60, .inl y3f)), (yp, .inl (k 1, 60, .inl ypf)), (hs, .inr (5, [.ref hN, .ref hf, .ref hg, .int (iZ n), .int (iZ ni), .int (iZ lw), .int (iZ we)])), (hN, .inl (k 2, 6, .inr (.inl nf)))]) hx hb hml hown hts hKK hP hD hS hA (x_takeNumber l D k hr1 tx kw tp ln pl en ki va ke fk fp nm bf kwf cu 1 99 (by first | with_reducible assumption | exact ⟨⟨by omega, by omega⟩, ⟨by omega, by omega⟩, ⟨by omega, by omega⟩, by omega, ⟨by omega, by omega⟩, ⟨by omega, by omega⟩, by omega, by omega⟩) hbf hkw hrx ⟨by omega, by omega⟩ ⟨by omega, by omega⟩) ci_X4_takeNumber qm_X10_85 ⟨Nat.le_of_ble_eq_true rfl, Nat.le_of_ble_eq_true rfl⟩ ⟨Nat.le_of_ble_eq_true rfl, Nat.le_of_ble_eq_true rfl⟩ [2, 3, 4] [0, 1, 5, 6, 7, 8, 9, 10, 11, 12] rfl rfl rfl rfl rfl (dj rfl) 0 rfl rfl rfl hl.1 rfl (Nat.le_of_ble_eq_true rfl) dX10_readRest_63 (fun u_3 H locs hφ hP hD hS => ?_)
    obtain ⟨p_4, p_5⟩ : ((0 ≤ tp ∧ tp ≤ 900) ∧ (0 ≤ ln ∧ ln ≤ 900) ∧ (0 ≤ u_3.1.2.1 ∧ u_3.1.2.1 ≤ u_3.1.2.2.1) ∧ (u_3.1.2.2.1 ≤ ln) ∧ (0 ≤ u_3.1.2.2.2.1 ∧ u_3.1.2.2.2.1 ≤ 4) ∧ (-2147483648 ≤ u_3.1.2.2.2.2.1 ∧ u_3.1.2.2.2.2.1 < 2147483648) ∧ (-1 ≤ u_3.1.2.2.2.2.2.1 ∧ u_3.1.2.2.2.2.2.1 ≤ 24)) ∧ ((¬ (u_3.1.1 : Int) = -1 ∧ ∃ q9 : Int, xTn (tX bf ln) 1 99 cu = .inr (q9, u_3.1.1) ∧ cu < q9 ∧ RDX (tX bf ln) q9 u_3.1.2.1 u_3.1.2.2.1 u_3.1.2.2.2.1 u_3.1.2.2.2.2.1 u_3.1.2.2.2.2.2.1 u_3.2.1.2 ∧ (1 ≤ u_3.1.1 ∧ u_3.1.1 ≤ 99) ∧ u_3.1.2.2.2.2.2.2.1 = fk ∧ u_3.1.2.2.2.2.2.2.2 = fp) ∨ ((u_3.1.1 : Int) = -1 ∧ xTn (tX bf ln) 1 99 cu = .inl (u_3.1.2.2.2.2.2.2.1, u_3.1.2.2.2.2.2.2.2))) := hφ
    refine W.eq (g2 := F0 m 66 ls [.int (iZ u_3.1.1), .int (iZ a6), .ref y1]) rfl ?_
    rcases p_5 with ⟨qt_6, cut_6, st_6, lt_6, xt_6, rt_6, ut_6, vt_6⟩ | ⟨qt_6, st_6⟩
    ·
      obtain ⟨⟨ar_7, br_7⟩, cr_7, dr_7, er_7, fr_7, gr_7, hr_7⟩ := id xt_6
      refine va_iast hx hb hK hP hD hS 4 1 rfl rfl (zin (e := a6) (n := 60) ⟨by omega, by omega⟩ (bl rfl)) dX10_readRest_66 (fun H locs hP hD hS => ?_)
      obtain ⟨f_8, hf_8⟩ : ∃ gg9, gg9 = upd y1f (iZ a6).toNatClampNeg (iZ u_3.1.1) := ⟨_, rfl⟩
      rw [← hf_8] at hP hD
      refine lv_aload_n hx hb dX10_readRest_67 rfl (lv_at hl 0 rfl) ?_
      refine va_get (D := D) (ci := 10) (v := .ref hy) (C := RX10) (T := TX10) (N := 5) hx hb hts iX10 hown hK hP 0 rfl rfl 3 (bl rfl) (hts _ qf_X10_19) (fun _ h => h) rfl dX10_readRest_68 ?_
      refine va_get (D := D) (ci := 9) (v := .ref y1) (C := RX9) (T := TX9) (N := 8) hx hb hts iX9 hown hK hP 2 rfl rfl 1 (bl rfl) (hts _ qf_X10_82) (fun _ h => h) rfl dX10_readRest_71 ?_
      refine lv_iload_n hx hb dX10_readRest_74 rfl (lv_at hl 2 rfl) ?_
      refine va_iald hx hb hK hP 4 1 rfl rfl (zin (e := a6) (n := 60) ⟨by omega, by omega⟩ (bl rfl)) dX10_readRest_75 ?_
      refine lv_topi (fun x_9 ex_9 => ?_)
      obtain rfl : x_9 = iZ (gz f_8 a6) := ex_9.trans (gz_eq ⟨by omega, by omega⟩)
      have h_10 := gz_rg f_8 a6
      have uh_10 := gz_up hf_8 ⟨by omega, by omega⟩ ⟨by omega, by omega⟩ (j := a6) (by omega)
      rw [if_pos rfl] at uh_10
      refine lv_iconst (v := iZ (-1)) hx hb dX10_readRest_76 rfl ?_
      refine lv_icmp_eq (tgt := 84) hx hb dX10_readRest_77 rfl (fun c_11 => ?_) (fun c_11 => ?_)
      ·
        have c_11 := (zeq (x := iZ (gz f_8 a6)) (y := iZ (-1)) rfl rfl (gz_rg f_8 a6) wn_m1).mp c_11
        exact absurd c_11 (by omega)
      ·
        have c_11 := mt (zeq (x := iZ (gz f_8 a6)) (y := iZ (-1)) rfl rfl (gz_rg f_8 a6) wn_m1).mpr c_11
        refine lv_iconst (v := iZ 1) hx hb dX10_readRest_80 rfl ?_
        refine lv_goto (tgt := 85) hx hb dX10_readRest_81 rfl ?_
        exact EWz hx hb hr hlocks hS ((1, u_3.1.2.1, u_3.1.2.2.1, u_3.1.2.2.2.1, u_3.1.2.2.2.2.1, u_3.1.2.2.2.2.2.1, u_3.1.2.2.2.2.2.2.1, u_3.1.2.2.2.2.2.2.2), (0, u_3.2.1.2), (f_8, y2f, y3f), ()) rfl rfl ⟨(show (0 ≤ tp ∧ tp ≤ 900) ∧ (0 ≤ ln ∧ ln ≤ 900) ∧ (0 ≤ u_3.1.2.1 ∧ u_3.1.2.1 ≤ u_3.1.2.2.1) ∧ (u_3.1.2.2.1 ≤ ln) ∧ (0 ≤ u_3.1.2.2.2.1 ∧ u_3.1.2.2.2.1 ≤ 4) ∧ (-2147483648 ≤ u_3.1.2.2.2.2.1 ∧ u_3.1.2.2.2.2.1 < 2147483648) ∧ (-1 ≤ u_3.1.2.2.2.2.2.1 ∧ u_3.1.2.2.2.2.2.1 ≤ 24) from (by first | with_reducible assumption | exact ⟨⟨by omega, by omega⟩, ⟨by omega, by omega⟩, ⟨by omega, by omega⟩, by omega, ⟨by omega, by omega⟩, ⟨by omega, by omega⟩, by omega, by omega⟩)), (show ((1 : Int) = 1 ∧ ∃ (q9 a9 b9 c9 : Int), xRe (tX bf ln) N n b6 cu = .inr (q9, a9, b9, c9) ∧ cu ≤ q9 ∧ RDX (tX bf ln) q9 u_3.1.2.1 u_3.1.2.2.1 u_3.1.2.2.2.1 u_3.1.2.2.2.2.1 u_3.1.2.2.2.2.2.1 u_3.2.1.2 ∧ (YF f_8 y1f a6 a9 ∧ YF y2f y2f a6 b9 ∧ YF y3f y3f a6 c9) ∧ u_3.1.2.2.2.2.2.2.1 = fk ∧ u_3.1.2.2.2.2.2.2.2 = fp) ∨ ((1 : Int) = 0 ∧ xRe (tX bf ln) N n b6 cu = .inl (u_3.1.2.2.2.2.2.2.1, u_3.1.2.2.2.2.2.2.2)) from (Or.inl ⟨rfl, _, _, _, _, xRe_n (by omega) st_6, by omega, xt_6, ⟨(Or.inr ⟨u_3.1.1, by omega, hf_8⟩), (Or.inl ⟨rfl, rfl⟩), (Or.inl ⟨rfl, rfl⟩)⟩, by omega, by omega⟩))⟩ (hP.sub [0, 1, 10, 11, 12, 2, 3, 4, 5, 6, 7, 8, 9] rfl) (hD.sub [0, 1, 10, 11, 12, 2, 3, 4, 5, 6, 7, 8, 9] rfl rfl) dX10_readRest_85
    ·
      rw [qt_6]
      refine va_iast hx hb hK hP hD hS 4 1 rfl rfl (zin (e := a6) (n := 60) ⟨by omega, by omega⟩ (bl rfl)) dX10_readRest_66 (fun H locs hP hD hS => ?_)
      obtain ⟨f_12, hf_12⟩ : ∃ gg9, gg9 = upd y1f (iZ a6).toNatClampNeg (iZ (-1)) := ⟨_, rfl⟩
      rw [← hf_12] at hP hD
      refine lv_aload_n hx hb dX10_readRest_67 rfl (lv_at hl 0 rfl) ?_
      refine va_get (D := D) (ci := 10) (v := .ref hy) (C := RX10) (T := TX10) (N := 5) hx hb hts iX10 hown hK hP 0 rfl rfl 3 (bl rfl) (hts _ qf_X10_19) (fun _ h => h) rfl dX10_readRest_68 ?_
      refine va_get (D := D) (ci := 9) (v := .ref y1) (C := RX9) (T := TX9) (N := 8) hx hb hts iX9 hown hK hP 2 rfl rfl 1 (bl rfl) (hts _ qf_X10_82) (fun _ h => h) rfl dX10_readRest_71 ?_
      refine lv_iload_n hx hb dX10_readRest_74 rfl (lv_at hl 2 rfl) ?_
      refine va_iald hx hb hK hP 4 1 rfl rfl (zin (e := a6) (n := 60) ⟨by omega, by omega⟩ (bl rfl)) dX10_readRest_75 ?_
      refine lv_topi (fun x_13 ex_13 => ?_)
      obtain rfl : x_13 = iZ (gz f_12 a6) := ex_13.trans (gz_eq ⟨by omega, by omega⟩)
      have h_14 := gz_rg f_12 a6
      have uh_14 := gz_up hf_12 ⟨by omega, by omega⟩ ⟨by omega, by omega⟩ (j := a6) (by omega)
      rw [if_pos rfl] at uh_14
      refine lv_iconst (v := iZ (-1)) hx hb dX10_readRest_76 rfl ?_
      refine lv_icmp_eq (tgt := 84) hx hb dX10_readRest_77 rfl (fun c_15 => ?_) (fun c_15 => ?_)
      ·
        have c_15 := (zeq (x := iZ (gz f_12 a6)) (y := iZ (-1)) rfl rfl (gz_rg f_12 a6) wn_m1).mp c_15
        refine lv_iconst (v := iZ 0) hx hb dX10_readRest_84 rfl ?_
        exact EWz hx hb hr hlocks hS ((0, u_3.1.2.1, u_3.1.2.2.1, u_3.1.2.2.2.1, u_3.1.2.2.2.2.1, u_3.1.2.2.2.2.2.1, u_3.1.2.2.2.2.2.2.1, u_3.1.2.2.2.2.2.2.2), (0, u_3.2.1.2), (f_12, y2f, y3f), ()) rfl rfl ⟨(show (0 ≤ tp ∧ tp ≤ 900) ∧ (0 ≤ ln ∧ ln ≤ 900) ∧ (0 ≤ u_3.1.2.1 ∧ u_3.1.2.1 ≤ u_3.1.2.2.1) ∧ (u_3.1.2.2.1 ≤ ln) ∧ (0 ≤ u_3.1.2.2.2.1 ∧ u_3.1.2.2.2.1 ≤ 4) ∧ (-2147483648 ≤ u_3.1.2.2.2.2.1 ∧ u_3.1.2.2.2.2.1 < 2147483648) ∧ (-1 ≤ u_3.1.2.2.2.2.2.1 ∧ u_3.1.2.2.2.2.2.1 ≤ 24) from (by first | with_reducible assumption | exact ⟨⟨by omega, by omega⟩, ⟨by omega, by omega⟩, ⟨by omega, by omega⟩, by omega, ⟨by omega, by omega⟩, ⟨by omega, by omega⟩, by omega, by omega⟩)), (show ((0 : Int) = 1 ∧ ∃ (q9 a9 b9 c9 : Int), xRe (tX bf ln) N n b6 cu = .inr (q9, a9, b9, c9) ∧ cu ≤ q9 ∧ RDX (tX bf ln) q9 u_3.1.2.1 u_3.1.2.2.1 u_3.1.2.2.2.1 u_3.1.2.2.2.2.1 u_3.1.2.2.2.2.2.1 u_3.2.1.2 ∧ (YF f_12 y1f a6 a9 ∧ YF y2f y2f a6 b9 ∧ YF y3f y3f a6 c9) ∧ u_3.1.2.2.2.2.2.2.1 = fk ∧ u_3.1.2.2.2.2.2.2.2 = fp) ∨ ((0 : Int) = 0 ∧ xRe (tX bf ln) N n b6 cu = .inl (u_3.1.2.2.2.2.2.2.1, u_3.1.2.2.2.2.2.2.2)) from (Or.inr ⟨rfl, xRe_nl (by omega) st_6⟩))⟩ (hP.sub [0, 1, 10, 11, 12, 2, 3, 4, 5, 6, 7, 8, 9] rfl) (hD.sub [0, 1, 10, 11, 12, 2, 3, 4, 5, 6, 7, 8, 9] rfl rfl) dX10_readRest_85
      ·
        have c_15 := mt (zeq (x := iZ (gz f_12 a6)) (y := iZ (-1)) rfl rfl (gz_rg f_12 a6) wn_m1).mpr c_15
        exact absurd c_15 (by omega)
  ·
    rcases Classical.em (b6 = 16) with c_16 | c_16
    ·
      refine lv_tableIn (tgt := 164) (off := 163) hx hb dX10_readRest_1 (by rw [iZ_ti ⟨by omega, by omega⟩]; omega) (by rw [iZ_ti ⟨by omega, by omega⟩]; omega) (by rw [iZ_ti ⟨by omega, by omega⟩, c_16]; rfl) (by decide) ?_
      refine lv_aload_n hx hb dX10_readRest_164 rfl (lv_at hl 0 rfl) ?_
      refine va_get (D := D) (ci := 10) (v := .ref hy) (C := RX10) (T := TX10) (N := 5) hx hb hts iX10 hown hK hP 0 rfl rfl 3 (bl rfl) (hts _ qf_X10_19) (fun _ h => h) rfl dX10_readRest_165 ?_
      refine va_get (D := D) (ci := 9) (v := .ref y1) (C := RX9) (T := TX9) (N := 8) hx hb hts iX9 hown hK hP 5 rfl rfl 1 (bl rfl) (hts _ qf_X10_82) (fun _ h => h) rfl dX10_readRest_168 ?_
      refine lv_iload_n hx hb dX10_readRest_171 rfl (lv_at hl 2 rfl) ?_
      refine lv_aload_n hx hb dX10_readRest_172 rfl (lv_at hl 0 rfl) ?_
      refine va_get (D := D) (ci := 10) (v := .ref hr1) (C := RX10) (T := TX10) (N := 5) hx hb hts iX10 hown hK hP 0 rfl rfl 0 (bl rfl) (hts _ qf_X10_15) (fun _ h => h) rfl dX10_readRest_173 ?_
      refine lv_aload_n hx hb dX10_readRest_176 rfl (lv_at hl 0 rfl) ?_
      refine va_get (D := D) (ci := 10) (v := .ref hs) (C := RX10) (T := TX10) (N := 5) hx hb hts iX10 hown hK hP 0 rfl rfl 4 (bl rfl) (hts _ qf_X10_23) (fun _ h => h) rfl dX10_readRest_177 ?_
      refine lv_iconst (v := iZ (-1)) hx hb dX10_readRest_180 rfl ?_
      refine CWV (As := [.ref hs, .int (iZ (-1))]) (rest := [.int (iZ a6), .ref y1]) (wc := _) (wr := [(hv, .inr (10, [.ref hr1, .ref oo, .int (iZ de), .ref hy, .ref hs])), (oo, .inl (k 1, 3, .inl of0)), (hy, .inr (9, [.ref yw, .ref y1, .ref y2, .ref y3, .ref yp, .int (iZ th), .int (iZ ys), .int (iZ yr)])), (yw, .inl (k 1, 60, .inl ywf)), (y1, .inl (k 1, 60, .inl y1f)), (y2, .inl (k 1, 60, .inl y2f)), (y3, .inl (k 1, 60, .inl y3f)), (yp, .inl (k 1, 60, .inl ypf))]) hx hb hml hown hts hKK hP hD hS hA (x_takeRock l D k ([.ref hN, .ref hf, .ref hg, .int (iZ n), .int (iZ ni), .int (iZ lw), .int (iZ we)]) hr1 tx kw hs hN tp ln pl en ki va ke fk fp nm bf kwf nf n cu (-1) N rfl rfl (by first | with_reducible assumption | exact ⟨⟨by omega, by omega⟩, ⟨by omega, by omega⟩, ⟨by omega, by omega⟩, by omega, ⟨by omega, by omega⟩, ⟨by omega, by omega⟩, by omega, by omega⟩) hbf hkw hrx ⟨by omega, by omega⟩ ⟨by omega, by omega⟩ hns) ci_X4_takeRock qm_X10_89 ⟨Nat.le_of_ble_eq_true rfl, Nat.le_of_ble_eq_true rfl⟩ ⟨Nat.le_of_ble_eq_true rfl, Nat.le_of_ble_eq_true rfl⟩ [2, 3, 4, 11, 12] [0, 1, 5, 6, 7, 8, 9, 10] rfl rfl rfl rfl rfl (dj rfl) 0 rfl rfl rfl hl.1 rfl (Nat.le_of_ble_eq_true rfl) dX10_readRest_181 (fun u_17 H locs hφ hP hD hS => ?_)
      obtain ⟨p_18, p_19⟩ : ((0 ≤ tp ∧ tp ≤ 900) ∧ (0 ≤ ln ∧ ln ≤ 900) ∧ (0 ≤ u_17.1.2.1 ∧ u_17.1.2.1 ≤ u_17.1.2.2.1) ∧ (u_17.1.2.2.1 ≤ ln) ∧ (0 ≤ u_17.1.2.2.2.1 ∧ u_17.1.2.2.2.1 ≤ 4) ∧ (-2147483648 ≤ u_17.1.2.2.2.2.1 ∧ u_17.1.2.2.2.2.1 < 2147483648) ∧ (-1 ≤ u_17.1.2.2.2.2.2.1 ∧ u_17.1.2.2.2.2.2.1 ≤ 24)) ∧ ((¬ (u_17.1.1 : Int) = -1 ∧ ∃ q9 : Int, xTr (tX bf ln) N n (-1) cu = .inr (q9, u_17.1.1) ∧ cu < q9 ∧ RDX (tX bf ln) q9 u_17.1.2.1 u_17.1.2.2.1 u_17.1.2.2.2.1 u_17.1.2.2.2.2.1 u_17.1.2.2.2.2.2.1 u_17.2.1.2 ∧ (0 ≤ u_17.1.1 ∧ u_17.1.1 < n) ∧ u_17.1.2.2.2.2.2.2.1 = fk ∧ u_17.1.2.2.2.2.2.2.2 = fp) ∨ ((u_17.1.1 : Int) = -1 ∧ xTr (tX bf ln) N n (-1) cu = .inl (u_17.1.2.2.2.2.2.2.1, u_17.1.2.2.2.2.2.2.2))) := hφ
      refine W.eq (g2 := F0 m 184 ls [.int (iZ u_17.1.1), .int (iZ a6), .ref y1]) rfl ?_
      rcases p_19 with ⟨qt_20, cut_20, st_20, lt_20, xt_20, rt_20, ut_20, vt_20⟩ | ⟨qt_20, st_20⟩
      ·
        obtain ⟨⟨ar_21, br_21⟩, cr_21, dr_21, er_21, fr_21, gr_21, hr_21⟩ := id xt_20
        refine va_iast hx hb hK hP hD hS 4 1 rfl rfl (zin (e := a6) (n := 60) ⟨by omega, by omega⟩ (bl rfl)) dX10_readRest_184 (fun H locs hP hD hS => ?_)
        obtain ⟨f_22, hf_22⟩ : ∃ gg9, gg9 = upd y1f (iZ a6).toNatClampNeg (iZ u_17.1.1) := ⟨_, rfl⟩
        rw [← hf_22] at hP hD
        refine lv_aload_n hx hb dX10_readRest_185 rfl (lv_at hl 0 rfl) ?_
        refine va_get (D := D) (ci := 10) (v := .ref hy) (C := RX10) (T := TX10) (N := 5) hx hb hts iX10 hown hK hP 0 rfl rfl 3 (bl rfl) (hts _ qf_X10_19) (fun _ h => h) rfl dX10_readRest_186 ?_
        refine va_get (D := D) (ci := 9) (v := .ref y2) (C := RX9) (T := TX9) (N := 8) hx hb hts iX9 hown hK hP 2 rfl rfl 2 (bl rfl) (hts _ qf_X10_93) (fun _ h => h) rfl dX10_readRest_189 ?_
        refine lv_iload_n hx hb dX10_readRest_192 rfl (lv_at hl 2 rfl) ?_
        refine lv_aload_n hx hb dX10_readRest_193 rfl (lv_at hl 0 rfl) ?_
        refine va_get (D := D) (ci := 10) (v := .ref hy) (C := RX10) (T := TX10) (N := 5) hx hb hts iX10 hown hK hP 0 rfl rfl 3 (bl rfl) (hts _ qf_X10_19) (fun _ h => h) rfl dX10_readRest_194 ?_
        refine va_get (D := D) (ci := 9) (v := .ref y1) (C := RX9) (T := TX9) (N := 8) hx hb hts iX9 hown hK hP 2 rfl rfl 1 (bl rfl) (hts _ qf_X10_82) (fun _ h => h) rfl dX10_readRest_197 ?_
        refine lv_iload_n hx hb dX10_readRest_200 rfl (lv_at hl 2 rfl) ?_
        refine va_iald hx hb hK hP 4 1 rfl rfl (zin (e := a6) (n := 60) ⟨by omega, by omega⟩ (bl rfl)) dX10_readRest_201 ?_
        refine lv_topi (fun x_23 ex_23 => ?_)
        obtain rfl : x_23 = iZ (gz f_22 a6) := ex_23.trans (gz_eq ⟨by omega, by omega⟩)
        have h_24 := gz_rg f_22 a6
        have uh_24 := gz_up hf_22 ⟨by omega, by omega⟩ ⟨by omega, by omega⟩ (j := a6) (by omega)
        rw [if_pos rfl] at uh_24
        refine lv_iconst (v := iZ (-1)) hx hb dX10_readRest_202 rfl ?_
        refine lv_icmp_ne (tgt := 210) hx hb dX10_readRest_203 rfl (fun c_25 => ?_) (fun c_25 => ?_)
        ·
          have c_25 := mt (zeq (x := iZ (gz f_22 a6)) (y := iZ (-1)) rfl rfl (gz_rg f_22 a6) wn_m1).mpr c_25
          refine lv_aload_n hx hb dX10_readRest_210 rfl (lv_at hl 0 rfl) ?_
          refine va_get (D := D) (ci := 10) (v := .ref hr1) (C := RX10) (T := TX10) (N := 5) hx hb hts iX10 hown hK hP 0 rfl rfl 0 (bl rfl) (hts _ qf_X10_15) (fun _ h => h) rfl dX10_readRest_211 ?_
          refine lv_iconst (v := iZ 0) hx hb dX10_readRest_214 rfl ?_
          refine lv_iconst (v := iZ 1) hx hb dX10_readRest_215 rfl ?_
          refine CWV (As := [.int (iZ 0), .int (iZ 1)]) (rest := [.int (iZ a6), .ref y2]) (wc := _) (wr := [(hv, .inr (10, [.ref hr1, .ref oo, .int (iZ de), .ref hy, .ref hs])), (oo, .inl (k 1, 3, .inl of0)), (hy, .inr (9, [.ref yw, .ref y1, .ref y2, .ref y3, .ref yp, .int (iZ th), .int (iZ ys), .int (iZ yr)])), (yw, .inl (k 1, 60, .inl ywf)), (y1, .inl (k 1, 60, .inl f_22)), (y2, .inl (k 1, 60, .inl y2f)), (y3, .inl (k 1, 60, .inl y3f)), (yp, .inl (k 1, 60, .inl ypf)), (hs, .inr (5, [.ref hN, .ref hf, .ref hg, .int (iZ n), .int (iZ ni), .int (iZ lw), .int (iZ we)])), (hN, .inl (k 2, 6, .inr (.inl nf)))]) hx hb hml hown hts hKK hP hD hS hA (x_takeNumber l D k hr1 tx kw tp ln u_17.1.2.1 u_17.1.2.2.1 u_17.1.2.2.2.1 u_17.1.2.2.2.2.1 u_17.1.2.2.2.2.2.1 u_17.1.2.2.2.2.2.2.1 u_17.1.2.2.2.2.2.2.2 u_17.2.1.2 bf kwf cut_20 0 1 (by first | with_reducible assumption | exact ⟨⟨by omega, by omega⟩, ⟨by omega, by omega⟩, ⟨by omega, by omega⟩, by omega, ⟨by omega, by omega⟩, ⟨by omega, by omega⟩, by omega, by omega⟩) hbf hkw xt_20 ⟨by omega, by omega⟩ ⟨by omega, by omega⟩) ci_X4_takeNumber qm_X10_85 ⟨Nat.le_of_ble_eq_true rfl, Nat.le_of_ble_eq_true rfl⟩ ⟨Nat.le_of_ble_eq_true rfl, Nat.le_of_ble_eq_true rfl⟩ [8, 9, 10] [0, 1, 2, 3, 4, 5, 6, 7, 11, 12] rfl rfl rfl rfl rfl (dj rfl) 0 rfl rfl rfl hl.1 rfl (Nat.le_of_ble_eq_true rfl) dX10_readRest_216 (fun u_26 H locs hφ hP hD hS => ?_)
          obtain ⟨p_27, p_28⟩ : ((0 ≤ tp ∧ tp ≤ 900) ∧ (0 ≤ ln ∧ ln ≤ 900) ∧ (0 ≤ u_26.1.2.1 ∧ u_26.1.2.1 ≤ u_26.1.2.2.1) ∧ (u_26.1.2.2.1 ≤ ln) ∧ (0 ≤ u_26.1.2.2.2.1 ∧ u_26.1.2.2.2.1 ≤ 4) ∧ (-2147483648 ≤ u_26.1.2.2.2.2.1 ∧ u_26.1.2.2.2.2.1 < 2147483648) ∧ (-1 ≤ u_26.1.2.2.2.2.2.1 ∧ u_26.1.2.2.2.2.2.1 ≤ 24)) ∧ ((¬ (u_26.1.1 : Int) = -1 ∧ ∃ q9 : Int, xTn (tX bf ln) 0 1 cut_20 = .inr (q9, u_26.1.1) ∧ cut_20 < q9 ∧ RDX (tX bf ln) q9 u_26.1.2.1 u_26.1.2.2.1 u_26.1.2.2.2.1 u_26.1.2.2.2.2.1 u_26.1.2.2.2.2.2.1 u_26.2.1.2 ∧ (0 ≤ u_26.1.1 ∧ u_26.1.1 ≤ 1) ∧ u_26.1.2.2.2.2.2.2.1 = u_17.1.2.2.2.2.2.2.1 ∧ u_26.1.2.2.2.2.2.2.2 = u_17.1.2.2.2.2.2.2.2) ∨ ((u_26.1.1 : Int) = -1 ∧ xTn (tX bf ln) 0 1 cut_20 = .inl (u_26.1.2.2.2.2.2.2.1, u_26.1.2.2.2.2.2.2.2))) := hφ
          refine W.eq (g2 := F0 m 219 ls [.int (iZ u_26.1.1), .int (iZ a6), .ref y2]) rfl ?_
          rcases p_28 with ⟨qt_29, cut_29, st_29, lt_29, xt_29, rt_29, ut_29, vt_29⟩ | ⟨qt_29, st_29⟩
          ·
            obtain ⟨⟨ar_30, br_30⟩, cr_30, dr_30, er_30, fr_30, gr_30, hr_30⟩ := id xt_29
            refine va_iast hx hb hK hP hD hS 5 1 rfl rfl (zin (e := a6) (n := 60) ⟨by omega, by omega⟩ (bl rfl)) dX10_readRest_219 (fun H locs hP hD hS => ?_)
            obtain ⟨f_31, hf_31⟩ : ∃ gg9, gg9 = upd y2f (iZ a6).toNatClampNeg (iZ u_26.1.1) := ⟨_, rfl⟩
            rw [← hf_31] at hP hD
            refine lv_aload_n hx hb dX10_readRest_220 rfl (lv_at hl 0 rfl) ?_
            refine va_get (D := D) (ci := 10) (v := .ref hy) (C := RX10) (T := TX10) (N := 5) hx hb hts iX10 hown hK hP 0 rfl rfl 3 (bl rfl) (hts _ qf_X10_19) (fun _ h => h) rfl dX10_readRest_221 ?_
            refine va_get (D := D) (ci := 9) (v := .ref y2) (C := RX9) (T := TX9) (N := 8) hx hb hts iX9 hown hK hP 2 rfl rfl 2 (bl rfl) (hts _ qf_X10_93) (fun _ h => h) rfl dX10_readRest_224 ?_
            refine lv_iload_n hx hb dX10_readRest_227 rfl (lv_at hl 2 rfl) ?_
            refine va_iald hx hb hK hP 5 1 rfl rfl (zin (e := a6) (n := 60) ⟨by omega, by omega⟩ (bl rfl)) dX10_readRest_228 ?_
            refine lv_topi (fun x_32 ex_32 => ?_)
            obtain rfl : x_32 = iZ (gz f_31 a6) := ex_32.trans (gz_eq ⟨by omega, by omega⟩)
            have h_33 := gz_rg f_31 a6
            have uh_33 := gz_up hf_31 ⟨by omega, by omega⟩ ⟨by omega, by omega⟩ (j := a6) (by omega)
            rw [if_pos rfl] at uh_33
            refine lv_iconst (v := iZ (-1)) hx hb dX10_readRest_229 rfl ?_
            refine lv_icmp_eq (tgt := 237) hx hb dX10_readRest_230 rfl (fun c_34 => ?_) (fun c_34 => ?_)
            ·
              have c_34 := (zeq (x := iZ (gz f_31 a6)) (y := iZ (-1)) rfl rfl (gz_rg f_31 a6) wn_m1).mp c_34
              exact absurd c_34 (by omega)
            ·
              have c_34 := mt (zeq (x := iZ (gz f_31 a6)) (y := iZ (-1)) rfl rfl (gz_rg f_31 a6) wn_m1).mpr c_34
              refine lv_iconst (v := iZ 1) hx hb dX10_readRest_233 rfl ?_
              refine lv_goto (tgt := 238) hx hb dX10_readRest_234 rfl ?_
              exact EWz hx hb hr hlocks hS ((1, u_26.1.2.1, u_26.1.2.2.1, u_26.1.2.2.2.1, u_26.1.2.2.2.2.1, u_26.1.2.2.2.2.2.1, u_26.1.2.2.2.2.2.2.1, u_26.1.2.2.2.2.2.2.2), (0, u_26.2.1.2), (f_22, f_31, y3f), ()) rfl rfl ⟨(show (0 ≤ tp ∧ tp ≤ 900) ∧ (0 ≤ ln ∧ ln ≤ 900) ∧ (0 ≤ u_26.1.2.1 ∧ u_26.1.2.1 ≤ u_26.1.2.2.1) ∧ (u_26.1.2.2.1 ≤ ln) ∧ (0 ≤ u_26.1.2.2.2.1 ∧ u_26.1.2.2.2.1 ≤ 4) ∧ (-2147483648 ≤ u_26.1.2.2.2.2.1 ∧ u_26.1.2.2.2.2.1 < 2147483648) ∧ (-1 ≤ u_26.1.2.2.2.2.2.1 ∧ u_26.1.2.2.2.2.2.1 ≤ 24) from (by first | with_reducible assumption | exact ⟨⟨by omega, by omega⟩, ⟨by omega, by omega⟩, ⟨by omega, by omega⟩, by omega, ⟨by omega, by omega⟩, ⟨by omega, by omega⟩, by omega, by omega⟩)), (show ((1 : Int) = 1 ∧ ∃ (q9 a9 b9 c9 : Int), xRe (tX bf ln) N n b6 cu = .inr (q9, a9, b9, c9) ∧ cu ≤ q9 ∧ RDX (tX bf ln) q9 u_26.1.2.1 u_26.1.2.2.1 u_26.1.2.2.2.1 u_26.1.2.2.2.2.1 u_26.1.2.2.2.2.2.1 u_26.2.1.2 ∧ (YF f_22 y1f a6 a9 ∧ YF f_31 y2f a6 b9 ∧ YF y3f y3f a6 c9) ∧ u_26.1.2.2.2.2.2.2.1 = fk ∧ u_26.1.2.2.2.2.2.2.2 = fp) ∨ ((1 : Int) = 0 ∧ xRe (tX bf ln) N n b6 cu = .inl (u_26.1.2.2.2.2.2.2.1, u_26.1.2.2.2.2.2.2.2)) from (Or.inl ⟨rfl, _, _, _, _, xRe_w (by omega) st_20 st_29, by omega, xt_29, ⟨(Or.inr ⟨u_17.1.1, by omega, hf_22⟩), (Or.inr ⟨u_26.1.1, by omega, hf_31⟩), (Or.inl ⟨rfl, rfl⟩)⟩, by omega, by omega⟩))⟩ (hP.sub [0, 1, 10, 11, 12, 2, 3, 4, 5, 6, 7, 8, 9] rfl) (hD.sub [0, 1, 10, 11, 12, 2, 3, 4, 5, 6, 7, 8, 9] rfl rfl) dX10_readRest_238
          ·
            rw [qt_29]
            refine va_iast hx hb hK hP hD hS 5 1 rfl rfl (zin (e := a6) (n := 60) ⟨by omega, by omega⟩ (bl rfl)) dX10_readRest_219 (fun H locs hP hD hS => ?_)
            obtain ⟨f_35, hf_35⟩ : ∃ gg9, gg9 = upd y2f (iZ a6).toNatClampNeg (iZ (-1)) := ⟨_, rfl⟩
            rw [← hf_35] at hP hD
            refine lv_aload_n hx hb dX10_readRest_220 rfl (lv_at hl 0 rfl) ?_
            refine va_get (D := D) (ci := 10) (v := .ref hy) (C := RX10) (T := TX10) (N := 5) hx hb hts iX10 hown hK hP 0 rfl rfl 3 (bl rfl) (hts _ qf_X10_19) (fun _ h => h) rfl dX10_readRest_221 ?_
            refine va_get (D := D) (ci := 9) (v := .ref y2) (C := RX9) (T := TX9) (N := 8) hx hb hts iX9 hown hK hP 2 rfl rfl 2 (bl rfl) (hts _ qf_X10_93) (fun _ h => h) rfl dX10_readRest_224 ?_
            refine lv_iload_n hx hb dX10_readRest_227 rfl (lv_at hl 2 rfl) ?_
            refine va_iald hx hb hK hP 5 1 rfl rfl (zin (e := a6) (n := 60) ⟨by omega, by omega⟩ (bl rfl)) dX10_readRest_228 ?_
            refine lv_topi (fun x_36 ex_36 => ?_)
            obtain rfl : x_36 = iZ (gz f_35 a6) := ex_36.trans (gz_eq ⟨by omega, by omega⟩)
            have h_37 := gz_rg f_35 a6
            have uh_37 := gz_up hf_35 ⟨by omega, by omega⟩ ⟨by omega, by omega⟩ (j := a6) (by omega)
            rw [if_pos rfl] at uh_37
            refine lv_iconst (v := iZ (-1)) hx hb dX10_readRest_229 rfl ?_
            refine lv_icmp_eq (tgt := 237) hx hb dX10_readRest_230 rfl (fun c_38 => ?_) (fun c_38 => ?_)
            ·
              have c_38 := (zeq (x := iZ (gz f_35 a6)) (y := iZ (-1)) rfl rfl (gz_rg f_35 a6) wn_m1).mp c_38
              refine lv_iconst (v := iZ 0) hx hb dX10_readRest_237 rfl ?_
              exact EWz hx hb hr hlocks hS ((0, u_26.1.2.1, u_26.1.2.2.1, u_26.1.2.2.2.1, u_26.1.2.2.2.2.1, u_26.1.2.2.2.2.2.1, u_26.1.2.2.2.2.2.2.1, u_26.1.2.2.2.2.2.2.2), (0, u_26.2.1.2), (f_22, f_35, y3f), ()) rfl rfl ⟨(show (0 ≤ tp ∧ tp ≤ 900) ∧ (0 ≤ ln ∧ ln ≤ 900) ∧ (0 ≤ u_26.1.2.1 ∧ u_26.1.2.1 ≤ u_26.1.2.2.1) ∧ (u_26.1.2.2.1 ≤ ln) ∧ (0 ≤ u_26.1.2.2.2.1 ∧ u_26.1.2.2.2.1 ≤ 4) ∧ (-2147483648 ≤ u_26.1.2.2.2.2.1 ∧ u_26.1.2.2.2.2.1 < 2147483648) ∧ (-1 ≤ u_26.1.2.2.2.2.2.1 ∧ u_26.1.2.2.2.2.2.1 ≤ 24) from (by first | with_reducible assumption | exact ⟨⟨by omega, by omega⟩, ⟨by omega, by omega⟩, ⟨by omega, by omega⟩, by omega, ⟨by omega, by omega⟩, ⟨by omega, by omega⟩, by omega, by omega⟩)), (show ((0 : Int) = 1 ∧ ∃ (q9 a9 b9 c9 : Int), xRe (tX bf ln) N n b6 cu = .inr (q9, a9, b9, c9) ∧ cu ≤ q9 ∧ RDX (tX bf ln) q9 u_26.1.2.1 u_26.1.2.2.1 u_26.1.2.2.2.1 u_26.1.2.2.2.2.1 u_26.1.2.2.2.2.2.1 u_26.2.1.2 ∧ (YF f_22 y1f a6 a9 ∧ YF f_35 y2f a6 b9 ∧ YF y3f y3f a6 c9) ∧ u_26.1.2.2.2.2.2.2.1 = fk ∧ u_26.1.2.2.2.2.2.2.2 = fp) ∨ ((0 : Int) = 0 ∧ xRe (tX bf ln) N n b6 cu = .inl (u_26.1.2.2.2.2.2.2.1, u_26.1.2.2.2.2.2.2.2)) from (Or.inr ⟨rfl, xRe_wb (by omega) st_20 st_29⟩))⟩ (hP.sub [0, 1, 10, 11, 12, 2, 3, 4, 5, 6, 7, 8, 9] rfl) (hD.sub [0, 1, 10, 11, 12, 2, 3, 4, 5, 6, 7, 8, 9] rfl rfl) dX10_readRest_238
            ·
              have c_38 := mt (zeq (x := iZ (gz f_35 a6)) (y := iZ (-1)) rfl rfl (gz_rg f_35 a6) wn_m1).mpr c_38
              exact absurd c_38 (by omega)
        ·
          have c_25 := (zeq (x := iZ (gz f_22 a6)) (y := iZ (-1)) rfl rfl (gz_rg f_22 a6) wn_m1).mp c_25
          exact absurd c_25 (by omega)
      ·
        rw [qt_20]
        refine va_iast hx hb hK hP hD hS 4 1 rfl rfl (zin (e := a6) (n := 60) ⟨by omega, by omega⟩ (bl rfl)) dX10_readRest_184 (fun H locs hP hD hS => ?_)
        obtain ⟨f_39, hf_39⟩ : ∃ gg9, gg9 = upd y1f (iZ a6).toNatClampNeg (iZ (-1)) := ⟨_, rfl⟩
        rw [← hf_39] at hP hD
        refine lv_aload_n hx hb dX10_readRest_185 rfl (lv_at hl 0 rfl) ?_
        refine va_get (D := D) (ci := 10) (v := .ref hy) (C := RX10) (T := TX10) (N := 5) hx hb hts iX10 hown hK hP 0 rfl rfl 3 (bl rfl) (hts _ qf_X10_19) (fun _ h => h) rfl dX10_readRest_186 ?_
        refine va_get (D := D) (ci := 9) (v := .ref y2) (C := RX9) (T := TX9) (N := 8) hx hb hts iX9 hown hK hP 2 rfl rfl 2 (bl rfl) (hts _ qf_X10_93) (fun _ h => h) rfl dX10_readRest_189 ?_
        refine lv_iload_n hx hb dX10_readRest_192 rfl (lv_at hl 2 rfl) ?_
        refine lv_aload_n hx hb dX10_readRest_193 rfl (lv_at hl 0 rfl) ?_
        refine va_get (D := D) (ci := 10) (v := .ref hy) (C := RX10) (T := TX10) (N := 5) hx hb hts iX10 hown hK hP 0 rfl rfl 3 (bl rfl) (hts _ qf_X10_19) (fun _ h => h) rfl dX10_readRest_194 ?_
        refine va_get (D := D) (ci := 9) (v := .ref y1) (C := RX9) (T := TX9) (N := 8) hx hb hts iX9 hown hK hP 2 rfl rfl 1 (bl rfl) (hts _ qf_X10_82) (fun _ h => h) rfl dX10_readRest_197 ?_
        refine lv_iload_n hx hb dX10_readRest_200 rfl (lv_at hl 2 rfl) ?_
        refine va_iald hx hb hK hP 4 1 rfl rfl (zin (e := a6) (n := 60) ⟨by omega, by omega⟩ (bl rfl)) dX10_readRest_201 ?_
        refine lv_topi (fun x_40 ex_40 => ?_)
        obtain rfl : x_40 = iZ (gz f_39 a6) := ex_40.trans (gz_eq ⟨by omega, by omega⟩)
        have h_41 := gz_rg f_39 a6
        have uh_41 := gz_up hf_39 ⟨by omega, by omega⟩ ⟨by omega, by omega⟩ (j := a6) (by omega)
        rw [if_pos rfl] at uh_41
        refine lv_iconst (v := iZ (-1)) hx hb dX10_readRest_202 rfl ?_
        refine lv_icmp_ne (tgt := 210) hx hb dX10_readRest_203 rfl (fun c_42 => ?_) (fun c_42 => ?_)
        ·
          have c_42 := mt (zeq (x := iZ (gz f_39 a6)) (y := iZ (-1)) rfl rfl (gz_rg f_39 a6) wn_m1).mpr c_42
          exact absurd c_42 (by omega)
        ·
          have c_42 := (zeq (x := iZ (gz f_39 a6)) (y := iZ (-1)) rfl rfl (gz_rg f_39 a6) wn_m1).mp c_42
          refine lv_iconst (v := iZ (-1)) hx hb dX10_readRest_206 rfl ?_
          refine lv_goto (tgt := 219) hx hb dX10_readRest_207 rfl ?_
          refine va_iast hx hb hK hP hD hS 5 1 rfl rfl (zin (e := a6) (n := 60) ⟨by omega, by omega⟩ (bl rfl)) dX10_readRest_219 (fun H locs hP hD hS => ?_)
          obtain ⟨f_43, hf_43⟩ : ∃ gg9, gg9 = upd y2f (iZ a6).toNatClampNeg (iZ (-1)) := ⟨_, rfl⟩
          rw [← hf_43] at hP hD
          refine lv_aload_n hx hb dX10_readRest_220 rfl (lv_at hl 0 rfl) ?_
          refine va_get (D := D) (ci := 10) (v := .ref hy) (C := RX10) (T := TX10) (N := 5) hx hb hts iX10 hown hK hP 0 rfl rfl 3 (bl rfl) (hts _ qf_X10_19) (fun _ h => h) rfl dX10_readRest_221 ?_
          refine va_get (D := D) (ci := 9) (v := .ref y2) (C := RX9) (T := TX9) (N := 8) hx hb hts iX9 hown hK hP 2 rfl rfl 2 (bl rfl) (hts _ qf_X10_93) (fun _ h => h) rfl dX10_readRest_224 ?_
          refine lv_iload_n hx hb dX10_readRest_227 rfl (lv_at hl 2 rfl) ?_
          refine va_iald hx hb hK hP 5 1 rfl rfl (zin (e := a6) (n := 60) ⟨by omega, by omega⟩ (bl rfl)) dX10_readRest_228 ?_
          refine lv_topi (fun x_44 ex_44 => ?_)
          obtain rfl : x_44 = iZ (gz f_43 a6) := ex_44.trans (gz_eq ⟨by omega, by omega⟩)
          have h_45 := gz_rg f_43 a6
          have uh_45 := gz_up hf_43 ⟨by omega, by omega⟩ ⟨by omega, by omega⟩ (j := a6) (by omega)
          rw [if_pos rfl] at uh_45
          refine lv_iconst (v := iZ (-1)) hx hb dX10_readRest_229 rfl ?_
          refine lv_icmp_eq (tgt := 237) hx hb dX10_readRest_230 rfl (fun c_46 => ?_) (fun c_46 => ?_)
          ·
            have c_46 := (zeq (x := iZ (gz f_43 a6)) (y := iZ (-1)) rfl rfl (gz_rg f_43 a6) wn_m1).mp c_46
            refine lv_iconst (v := iZ 0) hx hb dX10_readRest_237 rfl ?_
            exact EWz hx hb hr hlocks hS ((0, u_17.1.2.1, u_17.1.2.2.1, u_17.1.2.2.2.1, u_17.1.2.2.2.2.1, u_17.1.2.2.2.2.2.1, u_17.1.2.2.2.2.2.2.1, u_17.1.2.2.2.2.2.2.2), (0, u_17.2.1.2), (f_39, f_43, y3f), ()) rfl rfl ⟨(show (0 ≤ tp ∧ tp ≤ 900) ∧ (0 ≤ ln ∧ ln ≤ 900) ∧ (0 ≤ u_17.1.2.1 ∧ u_17.1.2.1 ≤ u_17.1.2.2.1) ∧ (u_17.1.2.2.1 ≤ ln) ∧ (0 ≤ u_17.1.2.2.2.1 ∧ u_17.1.2.2.2.1 ≤ 4) ∧ (-2147483648 ≤ u_17.1.2.2.2.2.1 ∧ u_17.1.2.2.2.2.1 < 2147483648) ∧ (-1 ≤ u_17.1.2.2.2.2.2.1 ∧ u_17.1.2.2.2.2.2.1 ≤ 24) from (by first | with_reducible assumption | exact ⟨⟨by omega, by omega⟩, ⟨by omega, by omega⟩, ⟨by omega, by omega⟩, by omega, ⟨by omega, by omega⟩, ⟨by omega, by omega⟩, by omega, by omega⟩)), (show ((0 : Int) = 1 ∧ ∃ (q9 a9 b9 c9 : Int), xRe (tX bf ln) N n b6 cu = .inr (q9, a9, b9, c9) ∧ cu ≤ q9 ∧ RDX (tX bf ln) q9 u_17.1.2.1 u_17.1.2.2.1 u_17.1.2.2.2.1 u_17.1.2.2.2.2.1 u_17.1.2.2.2.2.2.1 u_17.2.1.2 ∧ (YF f_39 y1f a6 a9 ∧ YF f_43 y2f a6 b9 ∧ YF y3f y3f a6 c9) ∧ u_17.1.2.2.2.2.2.2.1 = fk ∧ u_17.1.2.2.2.2.2.2.2 = fp) ∨ ((0 : Int) = 0 ∧ xRe (tX bf ln) N n b6 cu = .inl (u_17.1.2.2.2.2.2.2.1, u_17.1.2.2.2.2.2.2.2)) from (Or.inr ⟨rfl, xRe_wa (by omega) st_20⟩))⟩ (hP.sub [0, 1, 8, 9, 10, 2, 3, 4, 5, 6, 7, 11, 12] rfl) (hD.sub [0, 1, 8, 9, 10, 2, 3, 4, 5, 6, 7, 11, 12] rfl rfl) dX10_readRest_238
          ·
            have c_46 := mt (zeq (x := iZ (gz f_43 a6)) (y := iZ (-1)) rfl rfl (gz_rg f_43 a6) wn_m1).mpr c_46
            exact absurd c_46 (by omega)
    ·
      rcases Classical.em (b6 = 17) with c_47 | c_47
      ·
        refine lv_tableIn (tgt := 124) (off := 123) hx hb dX10_readRest_1 (by rw [iZ_ti ⟨by omega, by omega⟩]; omega) (by rw [iZ_ti ⟨by omega, by omega⟩]; omega) (by rw [iZ_ti ⟨by omega, by omega⟩, c_47]; rfl) (by decide) ?_
        refine lv_aload_n hx hb dX10_readRest_124 rfl (lv_at hl 0 rfl) ?_
        refine va_get (D := D) (ci := 10) (v := .ref hy) (C := RX10) (T := TX10) (N := 5) hx hb hts iX10 hown hK hP 0 rfl rfl 3 (bl rfl) (hts _ qf_X10_19) (fun _ h => h) rfl dX10_readRest_125 ?_
        refine va_get (D := D) (ci := 9) (v := .ref y1) (C := RX9) (T := TX9) (N := 8) hx hb hts iX9 hown hK hP 5 rfl rfl 1 (bl rfl) (hts _ qf_X10_82) (fun _ h => h) rfl dX10_readRest_128 ?_
        refine lv_iload_n hx hb dX10_readRest_131 rfl (lv_at hl 2 rfl) ?_
        refine lv_aload_n hx hb dX10_readRest_132 rfl (lv_at hl 0 rfl) ?_
        refine va_get (D := D) (ci := 10) (v := .ref hr1) (C := RX10) (T := TX10) (N := 5) hx hb hts iX10 hown hK hP 0 rfl rfl 0 (bl rfl) (hts _ qf_X10_15) (fun _ h => h) rfl dX10_readRest_133 ?_
        refine lv_aload_n hx hb dX10_readRest_136 rfl (lv_at hl 0 rfl) ?_
        refine va_get (D := D) (ci := 10) (v := .ref hs) (C := RX10) (T := TX10) (N := 5) hx hb hts iX10 hown hK hP 0 rfl rfl 4 (bl rfl) (hts _ qf_X10_23) (fun _ h => h) rfl dX10_readRest_137 ?_
        refine lv_iconst (v := iZ (-1)) hx hb dX10_readRest_140 rfl ?_
        refine CWV (As := [.ref hs, .int (iZ (-1))]) (rest := [.int (iZ a6), .ref y1]) (wc := _) (wr := [(hv, .inr (10, [.ref hr1, .ref oo, .int (iZ de), .ref hy, .ref hs])), (oo, .inl (k 1, 3, .inl of0)), (hy, .inr (9, [.ref yw, .ref y1, .ref y2, .ref y3, .ref yp, .int (iZ th), .int (iZ ys), .int (iZ yr)])), (yw, .inl (k 1, 60, .inl ywf)), (y1, .inl (k 1, 60, .inl y1f)), (y2, .inl (k 1, 60, .inl y2f)), (y3, .inl (k 1, 60, .inl y3f)), (yp, .inl (k 1, 60, .inl ypf))]) hx hb hml hown hts hKK hP hD hS hA (x_takeRock l D k ([.ref hN, .ref hf, .ref hg, .int (iZ n), .int (iZ ni), .int (iZ lw), .int (iZ we)]) hr1 tx kw hs hN tp ln pl en ki va ke fk fp nm bf kwf nf n cu (-1) N rfl rfl (by first | with_reducible assumption | exact ⟨⟨by omega, by omega⟩, ⟨by omega, by omega⟩, ⟨by omega, by omega⟩, by omega, ⟨by omega, by omega⟩, ⟨by omega, by omega⟩, by omega, by omega⟩) hbf hkw hrx ⟨by omega, by omega⟩ ⟨by omega, by omega⟩ hns) ci_X4_takeRock qm_X10_89 ⟨Nat.le_of_ble_eq_true rfl, Nat.le_of_ble_eq_true rfl⟩ ⟨Nat.le_of_ble_eq_true rfl, Nat.le_of_ble_eq_true rfl⟩ [2, 3, 4, 11, 12] [0, 1, 5, 6, 7, 8, 9, 10] rfl rfl rfl rfl rfl (dj rfl) 0 rfl rfl rfl hl.1 rfl (Nat.le_of_ble_eq_true rfl) dX10_readRest_141 (fun u_48 H locs hφ hP hD hS => ?_)
        obtain ⟨p_49, p_50⟩ : ((0 ≤ tp ∧ tp ≤ 900) ∧ (0 ≤ ln ∧ ln ≤ 900) ∧ (0 ≤ u_48.1.2.1 ∧ u_48.1.2.1 ≤ u_48.1.2.2.1) ∧ (u_48.1.2.2.1 ≤ ln) ∧ (0 ≤ u_48.1.2.2.2.1 ∧ u_48.1.2.2.2.1 ≤ 4) ∧ (-2147483648 ≤ u_48.1.2.2.2.2.1 ∧ u_48.1.2.2.2.2.1 < 2147483648) ∧ (-1 ≤ u_48.1.2.2.2.2.2.1 ∧ u_48.1.2.2.2.2.2.1 ≤ 24)) ∧ ((¬ (u_48.1.1 : Int) = -1 ∧ ∃ q9 : Int, xTr (tX bf ln) N n (-1) cu = .inr (q9, u_48.1.1) ∧ cu < q9 ∧ RDX (tX bf ln) q9 u_48.1.2.1 u_48.1.2.2.1 u_48.1.2.2.2.1 u_48.1.2.2.2.2.1 u_48.1.2.2.2.2.2.1 u_48.2.1.2 ∧ (0 ≤ u_48.1.1 ∧ u_48.1.1 < n) ∧ u_48.1.2.2.2.2.2.2.1 = fk ∧ u_48.1.2.2.2.2.2.2.2 = fp) ∨ ((u_48.1.1 : Int) = -1 ∧ xTr (tX bf ln) N n (-1) cu = .inl (u_48.1.2.2.2.2.2.2.1, u_48.1.2.2.2.2.2.2.2))) := hφ
        refine W.eq (g2 := F0 m 144 ls [.int (iZ u_48.1.1), .int (iZ a6), .ref y1]) rfl ?_
        rcases p_50 with ⟨qt_51, cut_51, st_51, lt_51, xt_51, rt_51, ut_51, vt_51⟩ | ⟨qt_51, st_51⟩
        ·
          obtain ⟨⟨ar_52, br_52⟩, cr_52, dr_52, er_52, fr_52, gr_52, hr_52⟩ := id xt_51
          refine va_iast hx hb hK hP hD hS 4 1 rfl rfl (zin (e := a6) (n := 60) ⟨by omega, by omega⟩ (bl rfl)) dX10_readRest_144 (fun H locs hP hD hS => ?_)
          obtain ⟨f_53, hf_53⟩ : ∃ gg9, gg9 = upd y1f (iZ a6).toNatClampNeg (iZ u_48.1.1) := ⟨_, rfl⟩
          rw [← hf_53] at hP hD
          refine lv_aload_n hx hb dX10_readRest_145 rfl (lv_at hl 0 rfl) ?_
          refine va_get (D := D) (ci := 10) (v := .ref hy) (C := RX10) (T := TX10) (N := 5) hx hb hts iX10 hown hK hP 0 rfl rfl 3 (bl rfl) (hts _ qf_X10_19) (fun _ h => h) rfl dX10_readRest_146 ?_
          refine va_get (D := D) (ci := 9) (v := .ref y1) (C := RX9) (T := TX9) (N := 8) hx hb hts iX9 hown hK hP 2 rfl rfl 1 (bl rfl) (hts _ qf_X10_82) (fun _ h => h) rfl dX10_readRest_149 ?_
          refine lv_iload_n hx hb dX10_readRest_152 rfl (lv_at hl 2 rfl) ?_
          refine va_iald hx hb hK hP 4 1 rfl rfl (zin (e := a6) (n := 60) ⟨by omega, by omega⟩ (bl rfl)) dX10_readRest_153 ?_
          refine lv_topi (fun x_54 ex_54 => ?_)
          obtain rfl : x_54 = iZ (gz f_53 a6) := ex_54.trans (gz_eq ⟨by omega, by omega⟩)
          have h_55 := gz_rg f_53 a6
          have uh_55 := gz_up hf_53 ⟨by omega, by omega⟩ ⟨by omega, by omega⟩ (j := a6) (by omega)
          rw [if_pos rfl] at uh_55
          refine lv_iconst (v := iZ (-1)) hx hb dX10_readRest_154 rfl ?_
          refine lv_icmp_eq (tgt := 162) hx hb dX10_readRest_155 rfl (fun c_56 => ?_) (fun c_56 => ?_)
          ·
            have c_56 := (zeq (x := iZ (gz f_53 a6)) (y := iZ (-1)) rfl rfl (gz_rg f_53 a6) wn_m1).mp c_56
            exact absurd c_56 (by omega)
          ·
            have c_56 := mt (zeq (x := iZ (gz f_53 a6)) (y := iZ (-1)) rfl rfl (gz_rg f_53 a6) wn_m1).mpr c_56
            refine lv_iconst (v := iZ 1) hx hb dX10_readRest_158 rfl ?_
            refine lv_goto (tgt := 163) hx hb dX10_readRest_159 rfl ?_
            exact EWz hx hb hr hlocks hS ((1, u_48.1.2.1, u_48.1.2.2.1, u_48.1.2.2.2.1, u_48.1.2.2.2.2.1, u_48.1.2.2.2.2.2.1, u_48.1.2.2.2.2.2.2.1, u_48.1.2.2.2.2.2.2.2), (0, u_48.2.1.2), (f_53, y2f, y3f), ()) rfl rfl ⟨(show (0 ≤ tp ∧ tp ≤ 900) ∧ (0 ≤ ln ∧ ln ≤ 900) ∧ (0 ≤ u_48.1.2.1 ∧ u_48.1.2.1 ≤ u_48.1.2.2.1) ∧ (u_48.1.2.2.1 ≤ ln) ∧ (0 ≤ u_48.1.2.2.2.1 ∧ u_48.1.2.2.2.1 ≤ 4) ∧ (-2147483648 ≤ u_48.1.2.2.2.2.1 ∧ u_48.1.2.2.2.2.1 < 2147483648) ∧ (-1 ≤ u_48.1.2.2.2.2.2.1 ∧ u_48.1.2.2.2.2.2.1 ≤ 24) from (by first | with_reducible assumption | exact ⟨⟨by omega, by omega⟩, ⟨by omega, by omega⟩, ⟨by omega, by omega⟩, by omega, ⟨by omega, by omega⟩, ⟨by omega, by omega⟩, by omega, by omega⟩)), (show ((1 : Int) = 1 ∧ ∃ (q9 a9 b9 c9 : Int), xRe (tX bf ln) N n b6 cu = .inr (q9, a9, b9, c9) ∧ cu ≤ q9 ∧ RDX (tX bf ln) q9 u_48.1.2.1 u_48.1.2.2.1 u_48.1.2.2.2.1 u_48.1.2.2.2.2.1 u_48.1.2.2.2.2.2.1 u_48.2.1.2 ∧ (YF f_53 y1f a6 a9 ∧ YF y2f y2f a6 b9 ∧ YF y3f y3f a6 c9) ∧ u_48.1.2.2.2.2.2.2.1 = fk ∧ u_48.1.2.2.2.2.2.2.2 = fp) ∨ ((1 : Int) = 0 ∧ xRe (tX bf ln) N n b6 cu = .inl (u_48.1.2.2.2.2.2.2.1, u_48.1.2.2.2.2.2.2.2)) from (Or.inl ⟨rfl, _, _, _, _, xRe_o (by omega) st_51, by omega, xt_51, ⟨(Or.inr ⟨u_48.1.1, by omega, hf_53⟩), (Or.inl ⟨rfl, rfl⟩), (Or.inl ⟨rfl, rfl⟩)⟩, by omega, by omega⟩))⟩ (hP.sub [0, 1, 8, 9, 10, 2, 3, 4, 5, 6, 7, 11, 12] rfl) (hD.sub [0, 1, 8, 9, 10, 2, 3, 4, 5, 6, 7, 11, 12] rfl rfl) dX10_readRest_163
        ·
          rw [qt_51]
          refine va_iast hx hb hK hP hD hS 4 1 rfl rfl (zin (e := a6) (n := 60) ⟨by omega, by omega⟩ (bl rfl)) dX10_readRest_144 (fun H locs hP hD hS => ?_)
          obtain ⟨f_57, hf_57⟩ : ∃ gg9, gg9 = upd y1f (iZ a6).toNatClampNeg (iZ (-1)) := ⟨_, rfl⟩
          rw [← hf_57] at hP hD
          refine lv_aload_n hx hb dX10_readRest_145 rfl (lv_at hl 0 rfl) ?_
          refine va_get (D := D) (ci := 10) (v := .ref hy) (C := RX10) (T := TX10) (N := 5) hx hb hts iX10 hown hK hP 0 rfl rfl 3 (bl rfl) (hts _ qf_X10_19) (fun _ h => h) rfl dX10_readRest_146 ?_
          refine va_get (D := D) (ci := 9) (v := .ref y1) (C := RX9) (T := TX9) (N := 8) hx hb hts iX9 hown hK hP 2 rfl rfl 1 (bl rfl) (hts _ qf_X10_82) (fun _ h => h) rfl dX10_readRest_149 ?_
          refine lv_iload_n hx hb dX10_readRest_152 rfl (lv_at hl 2 rfl) ?_
          refine va_iald hx hb hK hP 4 1 rfl rfl (zin (e := a6) (n := 60) ⟨by omega, by omega⟩ (bl rfl)) dX10_readRest_153 ?_
          refine lv_topi (fun x_58 ex_58 => ?_)
          obtain rfl : x_58 = iZ (gz f_57 a6) := ex_58.trans (gz_eq ⟨by omega, by omega⟩)
          have h_59 := gz_rg f_57 a6
          have uh_59 := gz_up hf_57 ⟨by omega, by omega⟩ ⟨by omega, by omega⟩ (j := a6) (by omega)
          rw [if_pos rfl] at uh_59
          refine lv_iconst (v := iZ (-1)) hx hb dX10_readRest_154 rfl ?_
          refine lv_icmp_eq (tgt := 162) hx hb dX10_readRest_155 rfl (fun c_60 => ?_) (fun c_60 => ?_)
          ·
            have c_60 := (zeq (x := iZ (gz f_57 a6)) (y := iZ (-1)) rfl rfl (gz_rg f_57 a6) wn_m1).mp c_60
            refine lv_iconst (v := iZ 0) hx hb dX10_readRest_162 rfl ?_
            exact EWz hx hb hr hlocks hS ((0, u_48.1.2.1, u_48.1.2.2.1, u_48.1.2.2.2.1, u_48.1.2.2.2.2.1, u_48.1.2.2.2.2.2.1, u_48.1.2.2.2.2.2.2.1, u_48.1.2.2.2.2.2.2.2), (0, u_48.2.1.2), (f_57, y2f, y3f), ()) rfl rfl ⟨(show (0 ≤ tp ∧ tp ≤ 900) ∧ (0 ≤ ln ∧ ln ≤ 900) ∧ (0 ≤ u_48.1.2.1 ∧ u_48.1.2.1 ≤ u_48.1.2.2.1) ∧ (u_48.1.2.2.1 ≤ ln) ∧ (0 ≤ u_48.1.2.2.2.1 ∧ u_48.1.2.2.2.1 ≤ 4) ∧ (-2147483648 ≤ u_48.1.2.2.2.2.1 ∧ u_48.1.2.2.2.2.1 < 2147483648) ∧ (-1 ≤ u_48.1.2.2.2.2.2.1 ∧ u_48.1.2.2.2.2.2.1 ≤ 24) from (by first | with_reducible assumption | exact ⟨⟨by omega, by omega⟩, ⟨by omega, by omega⟩, ⟨by omega, by omega⟩, by omega, ⟨by omega, by omega⟩, ⟨by omega, by omega⟩, by omega, by omega⟩)), (show ((0 : Int) = 1 ∧ ∃ (q9 a9 b9 c9 : Int), xRe (tX bf ln) N n b6 cu = .inr (q9, a9, b9, c9) ∧ cu ≤ q9 ∧ RDX (tX bf ln) q9 u_48.1.2.1 u_48.1.2.2.1 u_48.1.2.2.2.1 u_48.1.2.2.2.2.1 u_48.1.2.2.2.2.2.1 u_48.2.1.2 ∧ (YF f_57 y1f a6 a9 ∧ YF y2f y2f a6 b9 ∧ YF y3f y3f a6 c9) ∧ u_48.1.2.2.2.2.2.2.1 = fk ∧ u_48.1.2.2.2.2.2.2.2 = fp) ∨ ((0 : Int) = 0 ∧ xRe (tX bf ln) N n b6 cu = .inl (u_48.1.2.2.2.2.2.2.1, u_48.1.2.2.2.2.2.2.2)) from (Or.inr ⟨rfl, xRe_ol (by omega) st_51⟩))⟩ (hP.sub [0, 1, 8, 9, 10, 2, 3, 4, 5, 6, 7, 11, 12] rfl) (hD.sub [0, 1, 8, 9, 10, 2, 3, 4, 5, 6, 7, 11, 12] rfl rfl) dX10_readRest_163
          ·
            have c_60 := mt (zeq (x := iZ (gz f_57 a6)) (y := iZ (-1)) rfl rfl (gz_rg f_57 a6) wn_m1).mpr c_60
            exact absurd c_60 (by omega)
      ·
        rcases Classical.em (b6 = 18) with c_61 | c_61
        ·
          refine lv_tableIn (tgt := 86) (off := 85) hx hb dX10_readRest_1 (by rw [iZ_ti ⟨by omega, by omega⟩]; omega) (by rw [iZ_ti ⟨by omega, by omega⟩]; omega) (by rw [iZ_ti ⟨by omega, by omega⟩, c_61]; rfl) (by decide) ?_
          refine lv_aload_n hx hb dX10_readRest_86 rfl (lv_at hl 0 rfl) ?_
          refine va_get (D := D) (ci := 10) (v := .ref hy) (C := RX10) (T := TX10) (N := 5) hx hb hts iX10 hown hK hP 0 rfl rfl 3 (bl rfl) (hts _ qf_X10_19) (fun _ h => h) rfl dX10_readRest_87 ?_
          refine va_get (D := D) (ci := 9) (v := .ref y1) (C := RX9) (T := TX9) (N := 8) hx hb hts iX9 hown hK hP 5 rfl rfl 1 (bl rfl) (hts _ qf_X10_82) (fun _ h => h) rfl dX10_readRest_90 ?_
          refine lv_iload_n hx hb dX10_readRest_93 rfl (lv_at hl 2 rfl) ?_
          refine lv_aload_n hx hb dX10_readRest_94 rfl (lv_at hl 0 rfl) ?_
          refine va_get (D := D) (ci := 10) (v := .ref hr1) (C := RX10) (T := TX10) (N := 5) hx hb hts iX10 hown hK hP 0 rfl rfl 0 (bl rfl) (hts _ qf_X10_15) (fun _ h => h) rfl dX10_readRest_95 ?_
          refine lv_iconst (v := iZ 0) hx hb dX10_readRest_98 rfl ?_
          refine lv_bipush (v := iZ 16) hx hb dX10_readRest_99 bip_16 ?_
          refine CWV (As := [.int (iZ 0), .int (iZ 16)]) (rest := [.int (iZ a6), .ref y1]) (wc := _) (wr := [(hv, .inr (10, [.ref hr1, .ref oo, .int (iZ de), .ref hy, .ref hs])), (oo, .inl (k 1, 3, .inl of0)), (hy, .inr (9, [.ref yw, .ref y1, .ref y2, .ref y3, .ref yp, .int (iZ th), .int (iZ ys), .int (iZ yr)])), (yw, .inl (k 1, 60, .inl ywf)), (y1, .inl (k 1, 60, .inl y1f)), (y2, .inl (k 1, 60, .inl y2f)), (y3, .inl (k 1, 60, .inl y3f)), (yp, .inl (k 1, 60, .inl ypf)), (hs, .inr (5, [.ref hN, .ref hf, .ref hg, .int (iZ n), .int (iZ ni), .int (iZ lw), .int (iZ we)])), (hN, .inl (k 2, 6, .inr (.inl nf)))]) hx hb hml hown hts hKK hP hD hS hA (x_takeNumber l D k hr1 tx kw tp ln pl en ki va ke fk fp nm bf kwf cu 0 16 (by first | with_reducible assumption | exact ⟨⟨by omega, by omega⟩, ⟨by omega, by omega⟩, ⟨by omega, by omega⟩, by omega, ⟨by omega, by omega⟩, ⟨by omega, by omega⟩, by omega, by omega⟩) hbf hkw hrx ⟨by omega, by omega⟩ ⟨by omega, by omega⟩) ci_X4_takeNumber qm_X10_85 ⟨Nat.le_of_ble_eq_true rfl, Nat.le_of_ble_eq_true rfl⟩ ⟨Nat.le_of_ble_eq_true rfl, Nat.le_of_ble_eq_true rfl⟩ [2, 3, 4] [0, 1, 5, 6, 7, 8, 9, 10, 11, 12] rfl rfl rfl rfl rfl (dj rfl) 0 rfl rfl rfl hl.1 rfl (Nat.le_of_ble_eq_true rfl) dX10_readRest_101 (fun u_62 H locs hφ hP hD hS => ?_)
          obtain ⟨p_63, p_64⟩ : ((0 ≤ tp ∧ tp ≤ 900) ∧ (0 ≤ ln ∧ ln ≤ 900) ∧ (0 ≤ u_62.1.2.1 ∧ u_62.1.2.1 ≤ u_62.1.2.2.1) ∧ (u_62.1.2.2.1 ≤ ln) ∧ (0 ≤ u_62.1.2.2.2.1 ∧ u_62.1.2.2.2.1 ≤ 4) ∧ (-2147483648 ≤ u_62.1.2.2.2.2.1 ∧ u_62.1.2.2.2.2.1 < 2147483648) ∧ (-1 ≤ u_62.1.2.2.2.2.2.1 ∧ u_62.1.2.2.2.2.2.1 ≤ 24)) ∧ ((¬ (u_62.1.1 : Int) = -1 ∧ ∃ q9 : Int, xTn (tX bf ln) 0 16 cu = .inr (q9, u_62.1.1) ∧ cu < q9 ∧ RDX (tX bf ln) q9 u_62.1.2.1 u_62.1.2.2.1 u_62.1.2.2.2.1 u_62.1.2.2.2.2.1 u_62.1.2.2.2.2.2.1 u_62.2.1.2 ∧ (0 ≤ u_62.1.1 ∧ u_62.1.1 ≤ 16) ∧ u_62.1.2.2.2.2.2.2.1 = fk ∧ u_62.1.2.2.2.2.2.2.2 = fp) ∨ ((u_62.1.1 : Int) = -1 ∧ xTn (tX bf ln) 0 16 cu = .inl (u_62.1.2.2.2.2.2.2.1, u_62.1.2.2.2.2.2.2.2))) := hφ
          refine W.eq (g2 := F0 m 104 ls [.int (iZ u_62.1.1), .int (iZ a6), .ref y1]) rfl ?_
          rcases p_64 with ⟨qt_65, cut_65, st_65, lt_65, xt_65, rt_65, ut_65, vt_65⟩ | ⟨qt_65, st_65⟩
          ·
            obtain ⟨⟨ar_66, br_66⟩, cr_66, dr_66, er_66, fr_66, gr_66, hr_66⟩ := id xt_65
            refine va_iast hx hb hK hP hD hS 4 1 rfl rfl (zin (e := a6) (n := 60) ⟨by omega, by omega⟩ (bl rfl)) dX10_readRest_104 (fun H locs hP hD hS => ?_)
            obtain ⟨f_67, hf_67⟩ : ∃ gg9, gg9 = upd y1f (iZ a6).toNatClampNeg (iZ u_62.1.1) := ⟨_, rfl⟩
            rw [← hf_67] at hP hD
            refine lv_aload_n hx hb dX10_readRest_105 rfl (lv_at hl 0 rfl) ?_
            refine va_get (D := D) (ci := 10) (v := .ref hy) (C := RX10) (T := TX10) (N := 5) hx hb hts iX10 hown hK hP 0 rfl rfl 3 (bl rfl) (hts _ qf_X10_19) (fun _ h => h) rfl dX10_readRest_106 ?_
            refine va_get (D := D) (ci := 9) (v := .ref y1) (C := RX9) (T := TX9) (N := 8) hx hb hts iX9 hown hK hP 2 rfl rfl 1 (bl rfl) (hts _ qf_X10_82) (fun _ h => h) rfl dX10_readRest_109 ?_
            refine lv_iload_n hx hb dX10_readRest_112 rfl (lv_at hl 2 rfl) ?_
            refine va_iald hx hb hK hP 4 1 rfl rfl (zin (e := a6) (n := 60) ⟨by omega, by omega⟩ (bl rfl)) dX10_readRest_113 ?_
            refine lv_topi (fun x_68 ex_68 => ?_)
            obtain rfl : x_68 = iZ (gz f_67 a6) := ex_68.trans (gz_eq ⟨by omega, by omega⟩)
            have h_69 := gz_rg f_67 a6
            have uh_69 := gz_up hf_67 ⟨by omega, by omega⟩ ⟨by omega, by omega⟩ (j := a6) (by omega)
            rw [if_pos rfl] at uh_69
            refine lv_iconst (v := iZ (-1)) hx hb dX10_readRest_114 rfl ?_
            refine lv_icmp_eq (tgt := 122) hx hb dX10_readRest_115 rfl (fun c_70 => ?_) (fun c_70 => ?_)
            ·
              have c_70 := (zeq (x := iZ (gz f_67 a6)) (y := iZ (-1)) rfl rfl (gz_rg f_67 a6) wn_m1).mp c_70
              exact absurd c_70 (by omega)
            ·
              have c_70 := mt (zeq (x := iZ (gz f_67 a6)) (y := iZ (-1)) rfl rfl (gz_rg f_67 a6) wn_m1).mpr c_70
              refine lv_iconst (v := iZ 1) hx hb dX10_readRest_118 rfl ?_
              refine lv_goto (tgt := 123) hx hb dX10_readRest_119 rfl ?_
              exact EWz hx hb hr hlocks hS ((1, u_62.1.2.1, u_62.1.2.2.1, u_62.1.2.2.2.1, u_62.1.2.2.2.2.1, u_62.1.2.2.2.2.2.1, u_62.1.2.2.2.2.2.2.1, u_62.1.2.2.2.2.2.2.2), (0, u_62.2.1.2), (f_67, y2f, y3f), ()) rfl rfl ⟨(show (0 ≤ tp ∧ tp ≤ 900) ∧ (0 ≤ ln ∧ ln ≤ 900) ∧ (0 ≤ u_62.1.2.1 ∧ u_62.1.2.1 ≤ u_62.1.2.2.1) ∧ (u_62.1.2.2.1 ≤ ln) ∧ (0 ≤ u_62.1.2.2.2.1 ∧ u_62.1.2.2.2.1 ≤ 4) ∧ (-2147483648 ≤ u_62.1.2.2.2.2.1 ∧ u_62.1.2.2.2.2.1 < 2147483648) ∧ (-1 ≤ u_62.1.2.2.2.2.2.1 ∧ u_62.1.2.2.2.2.2.1 ≤ 24) from (by first | with_reducible assumption | exact ⟨⟨by omega, by omega⟩, ⟨by omega, by omega⟩, ⟨by omega, by omega⟩, by omega, ⟨by omega, by omega⟩, ⟨by omega, by omega⟩, by omega, by omega⟩)), (show ((1 : Int) = 1 ∧ ∃ (q9 a9 b9 c9 : Int), xRe (tX bf ln) N n b6 cu = .inr (q9, a9, b9, c9) ∧ cu ≤ q9 ∧ RDX (tX bf ln) q9 u_62.1.2.1 u_62.1.2.2.1 u_62.1.2.2.2.1 u_62.1.2.2.2.2.1 u_62.1.2.2.2.2.2.1 u_62.2.1.2 ∧ (YF f_67 y1f a6 a9 ∧ YF y2f y2f a6 b9 ∧ YF y3f y3f a6 c9) ∧ u_62.1.2.2.2.2.2.2.1 = fk ∧ u_62.1.2.2.2.2.2.2.2 = fp) ∨ ((1 : Int) = 0 ∧ xRe (tX bf ln) N n b6 cu = .inl (u_62.1.2.2.2.2.2.2.1, u_62.1.2.2.2.2.2.2.2)) from (Or.inl ⟨rfl, _, _, _, _, xRe_c (by omega) st_65, by omega, xt_65, ⟨(Or.inr ⟨u_62.1.1, by omega, hf_67⟩), (Or.inl ⟨rfl, rfl⟩), (Or.inl ⟨rfl, rfl⟩)⟩, by omega, by omega⟩))⟩ (hP.sub [0, 1, 10, 11, 12, 2, 3, 4, 5, 6, 7, 8, 9] rfl) (hD.sub [0, 1, 10, 11, 12, 2, 3, 4, 5, 6, 7, 8, 9] rfl rfl) dX10_readRest_123
          ·
            rw [qt_65]
            refine va_iast hx hb hK hP hD hS 4 1 rfl rfl (zin (e := a6) (n := 60) ⟨by omega, by omega⟩ (bl rfl)) dX10_readRest_104 (fun H locs hP hD hS => ?_)
            obtain ⟨f_71, hf_71⟩ : ∃ gg9, gg9 = upd y1f (iZ a6).toNatClampNeg (iZ (-1)) := ⟨_, rfl⟩
            rw [← hf_71] at hP hD
            refine lv_aload_n hx hb dX10_readRest_105 rfl (lv_at hl 0 rfl) ?_
            refine va_get (D := D) (ci := 10) (v := .ref hy) (C := RX10) (T := TX10) (N := 5) hx hb hts iX10 hown hK hP 0 rfl rfl 3 (bl rfl) (hts _ qf_X10_19) (fun _ h => h) rfl dX10_readRest_106 ?_
            refine va_get (D := D) (ci := 9) (v := .ref y1) (C := RX9) (T := TX9) (N := 8) hx hb hts iX9 hown hK hP 2 rfl rfl 1 (bl rfl) (hts _ qf_X10_82) (fun _ h => h) rfl dX10_readRest_109 ?_
            refine lv_iload_n hx hb dX10_readRest_112 rfl (lv_at hl 2 rfl) ?_
            refine va_iald hx hb hK hP 4 1 rfl rfl (zin (e := a6) (n := 60) ⟨by omega, by omega⟩ (bl rfl)) dX10_readRest_113 ?_
            refine lv_topi (fun x_72 ex_72 => ?_)
            obtain rfl : x_72 = iZ (gz f_71 a6) := ex_72.trans (gz_eq ⟨by omega, by omega⟩)
            have h_73 := gz_rg f_71 a6
            have uh_73 := gz_up hf_71 ⟨by omega, by omega⟩ ⟨by omega, by omega⟩ (j := a6) (by omega)
            rw [if_pos rfl] at uh_73
            refine lv_iconst (v := iZ (-1)) hx hb dX10_readRest_114 rfl ?_
            refine lv_icmp_eq (tgt := 122) hx hb dX10_readRest_115 rfl (fun c_74 => ?_) (fun c_74 => ?_)
            ·
              have c_74 := (zeq (x := iZ (gz f_71 a6)) (y := iZ (-1)) rfl rfl (gz_rg f_71 a6) wn_m1).mp c_74
              refine lv_iconst (v := iZ 0) hx hb dX10_readRest_122 rfl ?_
              exact EWz hx hb hr hlocks hS ((0, u_62.1.2.1, u_62.1.2.2.1, u_62.1.2.2.2.1, u_62.1.2.2.2.2.1, u_62.1.2.2.2.2.2.1, u_62.1.2.2.2.2.2.2.1, u_62.1.2.2.2.2.2.2.2), (0, u_62.2.1.2), (f_71, y2f, y3f), ()) rfl rfl ⟨(show (0 ≤ tp ∧ tp ≤ 900) ∧ (0 ≤ ln ∧ ln ≤ 900) ∧ (0 ≤ u_62.1.2.1 ∧ u_62.1.2.1 ≤ u_62.1.2.2.1) ∧ (u_62.1.2.2.1 ≤ ln) ∧ (0 ≤ u_62.1.2.2.2.1 ∧ u_62.1.2.2.2.1 ≤ 4) ∧ (-2147483648 ≤ u_62.1.2.2.2.2.1 ∧ u_62.1.2.2.2.2.1 < 2147483648) ∧ (-1 ≤ u_62.1.2.2.2.2.2.1 ∧ u_62.1.2.2.2.2.2.1 ≤ 24) from (by first | with_reducible assumption | exact ⟨⟨by omega, by omega⟩, ⟨by omega, by omega⟩, ⟨by omega, by omega⟩, by omega, ⟨by omega, by omega⟩, ⟨by omega, by omega⟩, by omega, by omega⟩)), (show ((0 : Int) = 1 ∧ ∃ (q9 a9 b9 c9 : Int), xRe (tX bf ln) N n b6 cu = .inr (q9, a9, b9, c9) ∧ cu ≤ q9 ∧ RDX (tX bf ln) q9 u_62.1.2.1 u_62.1.2.2.1 u_62.1.2.2.2.1 u_62.1.2.2.2.2.1 u_62.1.2.2.2.2.2.1 u_62.2.1.2 ∧ (YF f_71 y1f a6 a9 ∧ YF y2f y2f a6 b9 ∧ YF y3f y3f a6 c9) ∧ u_62.1.2.2.2.2.2.2.1 = fk ∧ u_62.1.2.2.2.2.2.2.2 = fp) ∨ ((0 : Int) = 0 ∧ xRe (tX bf ln) N n b6 cu = .inl (u_62.1.2.2.2.2.2.2.1, u_62.1.2.2.2.2.2.2.2)) from (Or.inr ⟨rfl, xRe_cl (by omega) st_65⟩))⟩ (hP.sub [0, 1, 10, 11, 12, 2, 3, 4, 5, 6, 7, 8, 9] rfl) (hD.sub [0, 1, 10, 11, 12, 2, 3, 4, 5, 6, 7, 8, 9] rfl rfl) dX10_readRest_123
            ·
              have c_74 := mt (zeq (x := iZ (gz f_71 a6)) (y := iZ (-1)) rfl rfl (gz_rg f_71 a6) wn_m1).mpr c_74
              exact absurd c_74 (by omega)
        ·
          rcases Classical.em (b6 = 19) with c_75 | c_75
          ·
            refine lv_tableIn (tgt := 239) (off := 238) hx hb dX10_readRest_1 (by rw [iZ_ti ⟨by omega, by omega⟩]; omega) (by rw [iZ_ti ⟨by omega, by omega⟩]; omega) (by rw [iZ_ti ⟨by omega, by omega⟩, c_75]; rfl) (by decide) ?_
            refine lv_aload_n hx hb dX10_readRest_239 rfl (lv_at hl 0 rfl) ?_
            refine lv_iload_n hx hb dX10_readRest_240 rfl (lv_at hl 2 rfl) ?_
            refine CWV (As := [.int (iZ a6)]) (rest := []) (wc := _) (wr := []) hx hb hml hown hts hKK hP hD hS hA (x_readTest l D k hv oo hr1 tx kw hs hN hf hg de of0 tp ln pl en ki va ke fk fp nm bf kwf hy yw y1 y2 y3 yp th ys yr ywf y1f y2f y3f ypf n ni lw we nf cu a6 N (by first | with_reducible assumption | exact ⟨⟨by omega, by omega⟩, ⟨by omega, by omega⟩, ⟨by omega, by omega⟩, by omega, ⟨by omega, by omega⟩, ⟨by omega, by omega⟩, by omega, by omega⟩) hbf hkw hrx ⟨by omega, by omega⟩ ⟨by omega, by omega⟩ hns) ci_X10_readTest qm_X10_96 ⟨Nat.le_of_ble_eq_true rfl, Nat.le_of_ble_eq_true rfl⟩ ⟨Nat.le_of_ble_eq_true rfl, Nat.le_of_ble_eq_true rfl⟩ [0, 1, 2, 3, 4, 5, 6, 7, 8, 9, 10, 11, 12] [] rfl rfl rfl rfl rfl (dj rfl) 0 rfl rfl rfl hl.1 rfl (Nat.le_of_ble_eq_true rfl) dX10_readRest_241 (fun u_76 H locs hφ hP hD hS => ?_)
            obtain ⟨p_77, p_78⟩ : ((0 ≤ tp ∧ tp ≤ 900) ∧ (0 ≤ ln ∧ ln ≤ 900) ∧ (0 ≤ u_76.1.2.1 ∧ u_76.1.2.1 ≤ u_76.1.2.2.1) ∧ (u_76.1.2.2.1 ≤ ln) ∧ (0 ≤ u_76.1.2.2.2.1 ∧ u_76.1.2.2.2.1 ≤ 4) ∧ (-2147483648 ≤ u_76.1.2.2.2.2.1 ∧ u_76.1.2.2.2.2.1 < 2147483648) ∧ (-1 ≤ u_76.1.2.2.2.2.2.1 ∧ u_76.1.2.2.2.2.2.1 ≤ 24)) ∧ (((u_76.1.1 : Int) = 1 ∧ ∃ (q9 a9 b9 c9 : Int), xTe (tX bf ln) N n cu = .inr (q9, a9, b9, c9) ∧ cu ≤ q9 ∧ RDX (tX bf ln) q9 u_76.1.2.1 u_76.1.2.2.1 u_76.1.2.2.2.1 u_76.1.2.2.2.2.1 u_76.1.2.2.2.2.2.1 u_76.2.1.2 ∧ (YF u_76.2.2.1.1 y1f a6 a9 ∧ YF u_76.2.2.1.2.1 y2f a6 b9 ∧ YF u_76.2.2.1.2.2 y3f a6 c9) ∧ u_76.1.2.2.2.2.2.2.1 = fk ∧ u_76.1.2.2.2.2.2.2.2 = fp) ∨ ((u_76.1.1 : Int) = 0 ∧ xTe (tX bf ln) N n cu = .inl (u_76.1.2.2.2.2.2.2.1, u_76.1.2.2.2.2.2.2.2))) := hφ
            refine W.eq (g2 := F0 m 244 ls [.int (iZ u_76.1.1)]) rfl ?_
            rcases p_78 with ⟨qt_79, cut_79, at_79, bt_79, ct_79, st_79, lt_79, xt_79, ft_79, ut_79, vt_79⟩ | ⟨qt_79, st_79⟩
            ·
              rw [qt_79]
              obtain ⟨⟨ar_80, br_80⟩, cr_80, dr_80, er_80, fr_80, gr_80, hr_80⟩ := id xt_79
              exact EWz hx hb hr hlocks hS ((1, u_76.1.2.1, u_76.1.2.2.1, u_76.1.2.2.2.1, u_76.1.2.2.2.2.1, u_76.1.2.2.2.2.2.1, u_76.1.2.2.2.2.2.2.1, u_76.1.2.2.2.2.2.2.2), (0, u_76.2.1.2), (u_76.2.2.1.1, u_76.2.2.1.2.1, u_76.2.2.1.2.2), ()) rfl rfl ⟨(show (0 ≤ tp ∧ tp ≤ 900) ∧ (0 ≤ ln ∧ ln ≤ 900) ∧ (0 ≤ u_76.1.2.1 ∧ u_76.1.2.1 ≤ u_76.1.2.2.1) ∧ (u_76.1.2.2.1 ≤ ln) ∧ (0 ≤ u_76.1.2.2.2.1 ∧ u_76.1.2.2.2.1 ≤ 4) ∧ (-2147483648 ≤ u_76.1.2.2.2.2.1 ∧ u_76.1.2.2.2.2.1 < 2147483648) ∧ (-1 ≤ u_76.1.2.2.2.2.2.1 ∧ u_76.1.2.2.2.2.2.1 ≤ 24) from (by first | with_reducible assumption | exact ⟨⟨by omega, by omega⟩, ⟨by omega, by omega⟩, ⟨by omega, by omega⟩, by omega, ⟨by omega, by omega⟩, ⟨by omega, by omega⟩, by omega, by omega⟩)), (show ((1 : Int) = 1 ∧ ∃ (q9 a9 b9 c9 : Int), xRe (tX bf ln) N n b6 cu = .inr (q9, a9, b9, c9) ∧ cu ≤ q9 ∧ RDX (tX bf ln) q9 u_76.1.2.1 u_76.1.2.2.1 u_76.1.2.2.2.1 u_76.1.2.2.2.2.1 u_76.1.2.2.2.2.2.1 u_76.2.1.2 ∧ (YF u_76.2.2.1.1 y1f a6 a9 ∧ YF u_76.2.2.1.2.1 y2f a6 b9 ∧ YF u_76.2.2.1.2.2 y3f a6 c9) ∧ u_76.1.2.2.2.2.2.2.1 = fk ∧ u_76.1.2.2.2.2.2.2.2 = fp) ∨ ((1 : Int) = 0 ∧ xRe (tX bf ln) N n b6 cu = .inl (u_76.1.2.2.2.2.2.2.1, u_76.1.2.2.2.2.2.2.2)) from (Or.inl ⟨rfl, _, _, _, _, xRe_t (by omega) st_79, by omega, xt_79, ft_79, by omega, by omega⟩))⟩ (hP.sub [0, 1, 2, 3, 4, 5, 6, 7, 8, 9, 10, 11, 12] rfl) (hD.sub [0, 1, 2, 3, 4, 5, 6, 7, 8, 9, 10, 11, 12] rfl rfl) dX10_readRest_244
            ·
              rw [qt_79]
              exact EWz hx hb hr hlocks hS ((0, u_76.1.2.1, u_76.1.2.2.1, u_76.1.2.2.2.1, u_76.1.2.2.2.2.1, u_76.1.2.2.2.2.2.1, u_76.1.2.2.2.2.2.2.1, u_76.1.2.2.2.2.2.2.2), (0, u_76.2.1.2), (u_76.2.2.1.1, u_76.2.2.1.2.1, u_76.2.2.1.2.2), ()) rfl rfl ⟨(show (0 ≤ tp ∧ tp ≤ 900) ∧ (0 ≤ ln ∧ ln ≤ 900) ∧ (0 ≤ u_76.1.2.1 ∧ u_76.1.2.1 ≤ u_76.1.2.2.1) ∧ (u_76.1.2.2.1 ≤ ln) ∧ (0 ≤ u_76.1.2.2.2.1 ∧ u_76.1.2.2.2.1 ≤ 4) ∧ (-2147483648 ≤ u_76.1.2.2.2.2.1 ∧ u_76.1.2.2.2.2.1 < 2147483648) ∧ (-1 ≤ u_76.1.2.2.2.2.2.1 ∧ u_76.1.2.2.2.2.2.1 ≤ 24) from (by first | with_reducible assumption | exact ⟨⟨by omega, by omega⟩, ⟨by omega, by omega⟩, ⟨by omega, by omega⟩, by omega, ⟨by omega, by omega⟩, ⟨by omega, by omega⟩, by omega, by omega⟩)), (show ((0 : Int) = 1 ∧ ∃ (q9 a9 b9 c9 : Int), xRe (tX bf ln) N n b6 cu = .inr (q9, a9, b9, c9) ∧ cu ≤ q9 ∧ RDX (tX bf ln) q9 u_76.1.2.1 u_76.1.2.2.1 u_76.1.2.2.2.1 u_76.1.2.2.2.2.1 u_76.1.2.2.2.2.2.1 u_76.2.1.2 ∧ (YF u_76.2.2.1.1 y1f a6 a9 ∧ YF u_76.2.2.1.2.1 y2f a6 b9 ∧ YF u_76.2.2.1.2.2 y3f a6 c9) ∧ u_76.1.2.2.2.2.2.2.1 = fk ∧ u_76.1.2.2.2.2.2.2.2 = fp) ∨ ((0 : Int) = 0 ∧ xRe (tX bf ln) N n b6 cu = .inl (u_76.1.2.2.2.2.2.2.1, u_76.1.2.2.2.2.2.2.2)) from (Or.inr ⟨rfl, xRe_t (by omega) st_79⟩))⟩ (hP.sub [0, 1, 2, 3, 4, 5, 6, 7, 8, 9, 10, 11, 12] rfl) (hD.sub [0, 1, 2, 3, 4, 5, 6, 7, 8, 9, 10, 11, 12] rfl rfl) dX10_readRest_244
          ·
            rcases Classical.em (b6 = 20) with c_81 | c_81
            ·
              refine lv_tableIn (tgt := 245) (off := 244) hx hb dX10_readRest_1 (by rw [iZ_ti ⟨by omega, by omega⟩]; omega) (by rw [iZ_ti ⟨by omega, by omega⟩]; omega) (by rw [iZ_ti ⟨by omega, by omega⟩, c_81]; rfl) (by decide) ?_
              refine lv_iconst (v := iZ 1) hx hb dX10_readRest_245 rfl ?_
              exact EWz hx hb hr hlocks hS ((1, pl, en, ki, va, ke, fk, fp), (0, nm), (y1f, y2f, y3f), ()) rfl rfl ⟨(show (0 ≤ tp ∧ tp ≤ 900) ∧ (0 ≤ ln ∧ ln ≤ 900) ∧ (0 ≤ pl ∧ pl ≤ en) ∧ (en ≤ ln) ∧ (0 ≤ ki ∧ ki ≤ 4) ∧ (-2147483648 ≤ va ∧ va < 2147483648) ∧ (-1 ≤ ke ∧ ke ≤ 24) from (by first | with_reducible assumption | exact ⟨⟨by omega, by omega⟩, ⟨by omega, by omega⟩, ⟨by omega, by omega⟩, by omega, ⟨by omega, by omega⟩, ⟨by omega, by omega⟩, by omega, by omega⟩)), (show ((1 : Int) = 1 ∧ ∃ (q9 a9 b9 c9 : Int), xRe (tX bf ln) N n b6 cu = .inr (q9, a9, b9, c9) ∧ cu ≤ q9 ∧ RDX (tX bf ln) q9 pl en ki va ke nm ∧ (YF y1f y1f a6 a9 ∧ YF y2f y2f a6 b9 ∧ YF y3f y3f a6 c9) ∧ fk = fk ∧ fp = fp) ∨ ((1 : Int) = 0 ∧ xRe (tX bf ln) N n b6 cu = .inl (fk, fp)) from (Or.inl ⟨rfl, _, _, _, _, xRe_s (by omega), Int.le_refl _, hrx, ⟨Or.inl ⟨rfl, rfl⟩, Or.inl ⟨rfl, rfl⟩, Or.inl ⟨rfl, rfl⟩⟩, by omega, by omega⟩))⟩ (hP.sub [0, 1, 2, 3, 4, 5, 6, 7, 8, 9, 10, 11, 12] rfl) (hD.sub [0, 1, 2, 3, 4, 5, 6, 7, 8, 9, 10, 11, 12] rfl rfl) dX10_readRest_246
            ·
              rcases Classical.em (b6 = 21) with c_82 | c_82
              ·
                refine lv_tableIn (tgt := 245) (off := 244) hx hb dX10_readRest_1 (by rw [iZ_ti ⟨by omega, by omega⟩]; omega) (by rw [iZ_ti ⟨by omega, by omega⟩]; omega) (by rw [iZ_ti ⟨by omega, by omega⟩, c_82]; rfl) (by decide) ?_
                refine lv_iconst (v := iZ 1) hx hb dX10_readRest_245 rfl ?_
                exact EWz hx hb hr hlocks hS ((1, pl, en, ki, va, ke, fk, fp), (0, nm), (y1f, y2f, y3f), ()) rfl rfl ⟨(show (0 ≤ tp ∧ tp ≤ 900) ∧ (0 ≤ ln ∧ ln ≤ 900) ∧ (0 ≤ pl ∧ pl ≤ en) ∧ (en ≤ ln) ∧ (0 ≤ ki ∧ ki ≤ 4) ∧ (-2147483648 ≤ va ∧ va < 2147483648) ∧ (-1 ≤ ke ∧ ke ≤ 24) from (by first | with_reducible assumption | exact ⟨⟨by omega, by omega⟩, ⟨by omega, by omega⟩, ⟨by omega, by omega⟩, by omega, ⟨by omega, by omega⟩, ⟨by omega, by omega⟩, by omega, by omega⟩)), (show ((1 : Int) = 1 ∧ ∃ (q9 a9 b9 c9 : Int), xRe (tX bf ln) N n b6 cu = .inr (q9, a9, b9, c9) ∧ cu ≤ q9 ∧ RDX (tX bf ln) q9 pl en ki va ke nm ∧ (YF y1f y1f a6 a9 ∧ YF y2f y2f a6 b9 ∧ YF y3f y3f a6 c9) ∧ fk = fk ∧ fp = fp) ∨ ((1 : Int) = 0 ∧ xRe (tX bf ln) N n b6 cu = .inl (fk, fp)) from (Or.inl ⟨rfl, _, _, _, _, xRe_s (by omega), Int.le_refl _, hrx, ⟨Or.inl ⟨rfl, rfl⟩, Or.inl ⟨rfl, rfl⟩, Or.inl ⟨rfl, rfl⟩⟩, by omega, by omega⟩))⟩ (hP.sub [0, 1, 2, 3, 4, 5, 6, 7, 8, 9, 10, 11, 12] rfl) (hD.sub [0, 1, 2, 3, 4, 5, 6, 7, 8, 9, 10, 11, 12] rfl rfl) dX10_readRest_246
              ·
                rcases Classical.em (b6 = 22) with c_83 | c_83
                ·
                  refine lv_tableIn (tgt := 48) (off := 47) hx hb dX10_readRest_1 (by rw [iZ_ti ⟨by omega, by omega⟩]; omega) (by rw [iZ_ti ⟨by omega, by omega⟩]; omega) (by rw [iZ_ti ⟨by omega, by omega⟩, c_83]; rfl) (by decide) ?_
                  refine lv_aload_n hx hb dX10_readRest_48 rfl (lv_at hl 0 rfl) ?_
                  refine va_get (D := D) (ci := 10) (v := .ref hy) (C := RX10) (T := TX10) (N := 5) hx hb hts iX10 hown hK hP 0 rfl rfl 3 (bl rfl) (hts _ qf_X10_19) (fun _ h => h) rfl dX10_readRest_49 ?_
                  refine va_get (D := D) (ci := 9) (v := .ref y1) (C := RX9) (T := TX9) (N := 8) hx hb hts iX9 hown hK hP 5 rfl rfl 1 (bl rfl) (hts _ qf_X10_82) (fun _ h => h) rfl dX10_readRest_52 ?_
                  refine lv_iload_n hx hb dX10_readRest_55 rfl (lv_at hl 2 rfl) ?_
                  refine lv_aload_n hx hb dX10_readRest_56 rfl (lv_at hl 0 rfl) ?_
                  refine va_get (D := D) (ci := 10) (v := .ref hr1) (C := RX10) (T := TX10) (N := 5) hx hb hts iX10 hown hK hP 0 rfl rfl 0 (bl rfl) (hts _ qf_X10_15) (fun _ h => h) rfl dX10_readRest_57 ?_
                  refine lv_iconst (v := iZ 1) hx hb dX10_readRest_60 rfl ?_
                  refine lv_bipush (v := iZ 99) hx hb dX10_readRest_61 bip_99 ?_
                  refine CWV (As := [.int (iZ 1), .int (iZ 99)]) (rest := [.int (iZ a6), .ref y1]) (wc := _) (wr := [(hv, .inr (10, [.ref hr1, .ref oo, .int (iZ de), .ref hy, .ref hs])), (oo, .inl (k 1, 3, .inl of0)), (hy, .inr (9, [.ref yw, .ref y1, .ref y2, .ref y3, .ref yp, .int (iZ th), .int (iZ ys), .int (iZ yr)])), (yw, .inl (k 1, 60, .inl ywf)), (y1, .inl (k 1, 60, .inl y1f)), (y2, .inl (k 1, 60, .inl y2f)), (y3, .inl (k 1, 60, .inl y3f)), (yp, .inl (k 1, 60, .inl ypf)), (hs, .inr (5, [.ref hN, .ref hf, .ref hg, .int (iZ n), .int (iZ ni), .int (iZ lw), .int (iZ we)])), (hN, .inl (k 2, 6, .inr (.inl nf)))]) hx hb hml hown hts hKK hP hD hS hA (x_takeNumber l D k hr1 tx kw tp ln pl en ki va ke fk fp nm bf kwf cu 1 99 (by first | with_reducible assumption | exact ⟨⟨by omega, by omega⟩, ⟨by omega, by omega⟩, ⟨by omega, by omega⟩, by omega, ⟨by omega, by omega⟩, ⟨by omega, by omega⟩, by omega, by omega⟩) hbf hkw hrx ⟨by omega, by omega⟩ ⟨by omega, by omega⟩) ci_X4_takeNumber qm_X10_85 ⟨Nat.le_of_ble_eq_true rfl, Nat.le_of_ble_eq_true rfl⟩ ⟨Nat.le_of_ble_eq_true rfl, Nat.le_of_ble_eq_true rfl⟩ [2, 3, 4] [0, 1, 5, 6, 7, 8, 9, 10, 11, 12] rfl rfl rfl rfl rfl (dj rfl) 0 rfl rfl rfl hl.1 rfl (Nat.le_of_ble_eq_true rfl) dX10_readRest_63 (fun u_84 H locs hφ hP hD hS => ?_)
                  obtain ⟨p_85, p_86⟩ : ((0 ≤ tp ∧ tp ≤ 900) ∧ (0 ≤ ln ∧ ln ≤ 900) ∧ (0 ≤ u_84.1.2.1 ∧ u_84.1.2.1 ≤ u_84.1.2.2.1) ∧ (u_84.1.2.2.1 ≤ ln) ∧ (0 ≤ u_84.1.2.2.2.1 ∧ u_84.1.2.2.2.1 ≤ 4) ∧ (-2147483648 ≤ u_84.1.2.2.2.2.1 ∧ u_84.1.2.2.2.2.1 < 2147483648) ∧ (-1 ≤ u_84.1.2.2.2.2.2.1 ∧ u_84.1.2.2.2.2.2.1 ≤ 24)) ∧ ((¬ (u_84.1.1 : Int) = -1 ∧ ∃ q9 : Int, xTn (tX bf ln) 1 99 cu = .inr (q9, u_84.1.1) ∧ cu < q9 ∧ RDX (tX bf ln) q9 u_84.1.2.1 u_84.1.2.2.1 u_84.1.2.2.2.1 u_84.1.2.2.2.2.1 u_84.1.2.2.2.2.2.1 u_84.2.1.2 ∧ (1 ≤ u_84.1.1 ∧ u_84.1.1 ≤ 99) ∧ u_84.1.2.2.2.2.2.2.1 = fk ∧ u_84.1.2.2.2.2.2.2.2 = fp) ∨ ((u_84.1.1 : Int) = -1 ∧ xTn (tX bf ln) 1 99 cu = .inl (u_84.1.2.2.2.2.2.2.1, u_84.1.2.2.2.2.2.2.2))) := hφ
                  refine W.eq (g2 := F0 m 66 ls [.int (iZ u_84.1.1), .int (iZ a6), .ref y1]) rfl ?_
                  rcases p_86 with ⟨qt_87, cut_87, st_87, lt_87, xt_87, rt_87, ut_87, vt_87⟩ | ⟨qt_87, st_87⟩
                  ·
                    obtain ⟨⟨ar_88, br_88⟩, cr_88, dr_88, er_88, fr_88, gr_88, hr_88⟩ := id xt_87
                    refine va_iast hx hb hK hP hD hS 4 1 rfl rfl (zin (e := a6) (n := 60) ⟨by omega, by omega⟩ (bl rfl)) dX10_readRest_66 (fun H locs hP hD hS => ?_)
                    obtain ⟨f_89, hf_89⟩ : ∃ gg9, gg9 = upd y1f (iZ a6).toNatClampNeg (iZ u_84.1.1) := ⟨_, rfl⟩
                    rw [← hf_89] at hP hD
                    refine lv_aload_n hx hb dX10_readRest_67 rfl (lv_at hl 0 rfl) ?_
                    refine va_get (D := D) (ci := 10) (v := .ref hy) (C := RX10) (T := TX10) (N := 5) hx hb hts iX10 hown hK hP 0 rfl rfl 3 (bl rfl) (hts _ qf_X10_19) (fun _ h => h) rfl dX10_readRest_68 ?_
                    refine va_get (D := D) (ci := 9) (v := .ref y1) (C := RX9) (T := TX9) (N := 8) hx hb hts iX9 hown hK hP 2 rfl rfl 1 (bl rfl) (hts _ qf_X10_82) (fun _ h => h) rfl dX10_readRest_71 ?_
                    refine lv_iload_n hx hb dX10_readRest_74 rfl (lv_at hl 2 rfl) ?_
                    refine va_iald hx hb hK hP 4 1 rfl rfl (zin (e := a6) (n := 60) ⟨by omega, by omega⟩ (bl rfl)) dX10_readRest_75 ?_
                    refine lv_topi (fun x_90 ex_90 => ?_)
                    obtain rfl : x_90 = iZ (gz f_89 a6) := ex_90.trans (gz_eq ⟨by omega, by omega⟩)
                    have h_91 := gz_rg f_89 a6
                    have uh_91 := gz_up hf_89 ⟨by omega, by omega⟩ ⟨by omega, by omega⟩ (j := a6) (by omega)
                    rw [if_pos rfl] at uh_91
                    refine lv_iconst (v := iZ (-1)) hx hb dX10_readRest_76 rfl ?_
                    refine lv_icmp_eq (tgt := 84) hx hb dX10_readRest_77 rfl (fun c_92 => ?_) (fun c_92 => ?_)
                    ·
                      have c_92 := (zeq (x := iZ (gz f_89 a6)) (y := iZ (-1)) rfl rfl (gz_rg f_89 a6) wn_m1).mp c_92
                      exact absurd c_92 (by omega)
                    ·
                      have c_92 := mt (zeq (x := iZ (gz f_89 a6)) (y := iZ (-1)) rfl rfl (gz_rg f_89 a6) wn_m1).mpr c_92
                      refine lv_iconst (v := iZ 1) hx hb dX10_readRest_80 rfl ?_
                      refine lv_goto (tgt := 85) hx hb dX10_readRest_81 rfl ?_
                      exact EWz hx hb hr hlocks hS ((1, u_84.1.2.1, u_84.1.2.2.1, u_84.1.2.2.2.1, u_84.1.2.2.2.2.1, u_84.1.2.2.2.2.2.1, u_84.1.2.2.2.2.2.2.1, u_84.1.2.2.2.2.2.2.2), (0, u_84.2.1.2), (f_89, y2f, y3f), ()) rfl rfl ⟨(show (0 ≤ tp ∧ tp ≤ 900) ∧ (0 ≤ ln ∧ ln ≤ 900) ∧ (0 ≤ u_84.1.2.1 ∧ u_84.1.2.1 ≤ u_84.1.2.2.1) ∧ (u_84.1.2.2.1 ≤ ln) ∧ (0 ≤ u_84.1.2.2.2.1 ∧ u_84.1.2.2.2.1 ≤ 4) ∧ (-2147483648 ≤ u_84.1.2.2.2.2.1 ∧ u_84.1.2.2.2.2.1 < 2147483648) ∧ (-1 ≤ u_84.1.2.2.2.2.2.1 ∧ u_84.1.2.2.2.2.2.1 ≤ 24) from (by first | with_reducible assumption | exact ⟨⟨by omega, by omega⟩, ⟨by omega, by omega⟩, ⟨by omega, by omega⟩, by omega, ⟨by omega, by omega⟩, ⟨by omega, by omega⟩, by omega, by omega⟩)), (show ((1 : Int) = 1 ∧ ∃ (q9 a9 b9 c9 : Int), xRe (tX bf ln) N n b6 cu = .inr (q9, a9, b9, c9) ∧ cu ≤ q9 ∧ RDX (tX bf ln) q9 u_84.1.2.1 u_84.1.2.2.1 u_84.1.2.2.2.1 u_84.1.2.2.2.2.1 u_84.1.2.2.2.2.2.1 u_84.2.1.2 ∧ (YF f_89 y1f a6 a9 ∧ YF y2f y2f a6 b9 ∧ YF y3f y3f a6 c9) ∧ u_84.1.2.2.2.2.2.2.1 = fk ∧ u_84.1.2.2.2.2.2.2.2 = fp) ∨ ((1 : Int) = 0 ∧ xRe (tX bf ln) N n b6 cu = .inl (u_84.1.2.2.2.2.2.2.1, u_84.1.2.2.2.2.2.2.2)) from (Or.inl ⟨rfl, _, _, _, _, xRe_n (by omega) st_87, by omega, xt_87, ⟨(Or.inr ⟨u_84.1.1, by omega, hf_89⟩), (Or.inl ⟨rfl, rfl⟩), (Or.inl ⟨rfl, rfl⟩)⟩, by omega, by omega⟩))⟩ (hP.sub [0, 1, 10, 11, 12, 2, 3, 4, 5, 6, 7, 8, 9] rfl) (hD.sub [0, 1, 10, 11, 12, 2, 3, 4, 5, 6, 7, 8, 9] rfl rfl) dX10_readRest_85
                  ·
                    rw [qt_87]
                    refine va_iast hx hb hK hP hD hS 4 1 rfl rfl (zin (e := a6) (n := 60) ⟨by omega, by omega⟩ (bl rfl)) dX10_readRest_66 (fun H locs hP hD hS => ?_)
                    obtain ⟨f_93, hf_93⟩ : ∃ gg9, gg9 = upd y1f (iZ a6).toNatClampNeg (iZ (-1)) := ⟨_, rfl⟩
                    rw [← hf_93] at hP hD
                    refine lv_aload_n hx hb dX10_readRest_67 rfl (lv_at hl 0 rfl) ?_
                    refine va_get (D := D) (ci := 10) (v := .ref hy) (C := RX10) (T := TX10) (N := 5) hx hb hts iX10 hown hK hP 0 rfl rfl 3 (bl rfl) (hts _ qf_X10_19) (fun _ h => h) rfl dX10_readRest_68 ?_
                    refine va_get (D := D) (ci := 9) (v := .ref y1) (C := RX9) (T := TX9) (N := 8) hx hb hts iX9 hown hK hP 2 rfl rfl 1 (bl rfl) (hts _ qf_X10_82) (fun _ h => h) rfl dX10_readRest_71 ?_
                    refine lv_iload_n hx hb dX10_readRest_74 rfl (lv_at hl 2 rfl) ?_
                    refine va_iald hx hb hK hP 4 1 rfl rfl (zin (e := a6) (n := 60) ⟨by omega, by omega⟩ (bl rfl)) dX10_readRest_75 ?_
                    refine lv_topi (fun x_94 ex_94 => ?_)
                    obtain rfl : x_94 = iZ (gz f_93 a6) := ex_94.trans (gz_eq ⟨by omega, by omega⟩)
                    have h_95 := gz_rg f_93 a6
                    have uh_95 := gz_up hf_93 ⟨by omega, by omega⟩ ⟨by omega, by omega⟩ (j := a6) (by omega)
                    rw [if_pos rfl] at uh_95
                    refine lv_iconst (v := iZ (-1)) hx hb dX10_readRest_76 rfl ?_
                    refine lv_icmp_eq (tgt := 84) hx hb dX10_readRest_77 rfl (fun c_96 => ?_) (fun c_96 => ?_)
                    ·
                      have c_96 := (zeq (x := iZ (gz f_93 a6)) (y := iZ (-1)) rfl rfl (gz_rg f_93 a6) wn_m1).mp c_96
                      refine lv_iconst (v := iZ 0) hx hb dX10_readRest_84 rfl ?_
                      exact EWz hx hb hr hlocks hS ((0, u_84.1.2.1, u_84.1.2.2.1, u_84.1.2.2.2.1, u_84.1.2.2.2.2.1, u_84.1.2.2.2.2.2.1, u_84.1.2.2.2.2.2.2.1, u_84.1.2.2.2.2.2.2.2), (0, u_84.2.1.2), (f_93, y2f, y3f), ()) rfl rfl ⟨(show (0 ≤ tp ∧ tp ≤ 900) ∧ (0 ≤ ln ∧ ln ≤ 900) ∧ (0 ≤ u_84.1.2.1 ∧ u_84.1.2.1 ≤ u_84.1.2.2.1) ∧ (u_84.1.2.2.1 ≤ ln) ∧ (0 ≤ u_84.1.2.2.2.1 ∧ u_84.1.2.2.2.1 ≤ 4) ∧ (-2147483648 ≤ u_84.1.2.2.2.2.1 ∧ u_84.1.2.2.2.2.1 < 2147483648) ∧ (-1 ≤ u_84.1.2.2.2.2.2.1 ∧ u_84.1.2.2.2.2.2.1 ≤ 24) from (by first | with_reducible assumption | exact ⟨⟨by omega, by omega⟩, ⟨by omega, by omega⟩, ⟨by omega, by omega⟩, by omega, ⟨by omega, by omega⟩, ⟨by omega, by omega⟩, by omega, by omega⟩)), (show ((0 : Int) = 1 ∧ ∃ (q9 a9 b9 c9 : Int), xRe (tX bf ln) N n b6 cu = .inr (q9, a9, b9, c9) ∧ cu ≤ q9 ∧ RDX (tX bf ln) q9 u_84.1.2.1 u_84.1.2.2.1 u_84.1.2.2.2.1 u_84.1.2.2.2.2.1 u_84.1.2.2.2.2.2.1 u_84.2.1.2 ∧ (YF f_93 y1f a6 a9 ∧ YF y2f y2f a6 b9 ∧ YF y3f y3f a6 c9) ∧ u_84.1.2.2.2.2.2.2.1 = fk ∧ u_84.1.2.2.2.2.2.2.2 = fp) ∨ ((0 : Int) = 0 ∧ xRe (tX bf ln) N n b6 cu = .inl (u_84.1.2.2.2.2.2.2.1, u_84.1.2.2.2.2.2.2.2)) from (Or.inr ⟨rfl, xRe_nl (by omega) st_87⟩))⟩ (hP.sub [0, 1, 10, 11, 12, 2, 3, 4, 5, 6, 7, 8, 9] rfl) (hD.sub [0, 1, 10, 11, 12, 2, 3, 4, 5, 6, 7, 8, 9] rfl rfl) dX10_readRest_85
                    ·
                      have c_96 := mt (zeq (x := iZ (gz f_93 a6)) (y := iZ (-1)) rfl rfl (gz_rg f_93 a6) wn_m1).mpr c_96
                      exact absurd c_96 (by omega)
                ·
                  refine lv_tableOut (tgt := 245) hx hb dX10_readRest_1 (by rw [iZ_ti ⟨by omega, by omega⟩]; omega) (by decide) ?_
                  refine lv_iconst (v := iZ 1) hx hb dX10_readRest_245 rfl ?_
                  exact EWz hx hb hr hlocks hS ((1, pl, en, ki, va, ke, fk, fp), (0, nm), (y1f, y2f, y3f), ()) rfl rfl ⟨(show (0 ≤ tp ∧ tp ≤ 900) ∧ (0 ≤ ln ∧ ln ≤ 900) ∧ (0 ≤ pl ∧ pl ≤ en) ∧ (en ≤ ln) ∧ (0 ≤ ki ∧ ki ≤ 4) ∧ (-2147483648 ≤ va ∧ va < 2147483648) ∧ (-1 ≤ ke ∧ ke ≤ 24) from (by first | with_reducible assumption | exact ⟨⟨by omega, by omega⟩, ⟨by omega, by omega⟩, ⟨by omega, by omega⟩, by omega, ⟨by omega, by omega⟩, ⟨by omega, by omega⟩, by omega, by omega⟩)), (show ((1 : Int) = 1 ∧ ∃ (q9 a9 b9 c9 : Int), xRe (tX bf ln) N n b6 cu = .inr (q9, a9, b9, c9) ∧ cu ≤ q9 ∧ RDX (tX bf ln) q9 pl en ki va ke nm ∧ (YF y1f y1f a6 a9 ∧ YF y2f y2f a6 b9 ∧ YF y3f y3f a6 c9) ∧ fk = fk ∧ fp = fp) ∨ ((1 : Int) = 0 ∧ xRe (tX bf ln) N n b6 cu = .inl (fk, fp)) from (Or.inl ⟨rfl, _, _, _, _, xRe_s (by omega), Int.le_refl _, hrx, ⟨Or.inl ⟨rfl, rfl⟩, Or.inl ⟨rfl, rfl⟩, Or.inl ⟨rfl, rfl⟩⟩, by omega, by omega⟩))⟩ (hP.sub [0, 1, 2, 3, 4, 5, 6, 7, 8, 9, 10, 11, 12] rfl) (hD.sub [0, 1, 2, 3, 4, 5, 6, 7, 8, 9, 10, 11, 12] rfl rfl) dX10_readRest_246
set_option maxHeartbeats 4000000 in
set_option maxRecDepth 100000 in
theorem x_readEnd (l : Launch) (D : va_G) (k : Nat → ClassId) (hv : Nat) (oo : Nat) (hr1 : Nat) (tx : Nat) (kw : Nat) (hs : Nat) (hN : Nat) (hf : Nat) (hg : Nat) (de : Int) (of0 : Nat → Int32) (tp : Int) (ln : Int) (pl : Int) (en : Int) (ki : Int) (va : Int) (ke : Int) (fk : Int) (fp : Int) (nm : Int64) (bf : Nat → Int32) (kwf : Nat → Int64) (hy : Nat) (yw : Nat) (y1 : Nat) (y2 : Nat) (y3 : Nat) (yp : Nat) (th : Int) (ys : Int) (yr : Int) (ywf : Nat → Int32) (y1f : Nat → Int32) (y2f : Nat → Int32) (y3f : Nat → Int32) (ypf : Nat → Int32) (n : Int) (ni : Int) (lw : Int) (we : Int) (nf : Nat → Int64) (cu : Int) (N : Int → Int) (W0 : Int → Int) (A0 : Int → Int) (B0 : Int → Int) (C0 : Int → Int) (P0 : Int → Int) (O0 : Int → Int) (hI1 : (0 ≤ tp ∧ tp ≤ 900) ∧ (0 ≤ ln ∧ ln ≤ 900) ∧ (0 ≤ pl ∧ pl ≤ en) ∧ (en ≤ ln) ∧ (0 ≤ ki ∧ ki ≤ 4) ∧ (-2147483648 ≤ va ∧ va < 2147483648) ∧ (-1 ≤ ke ∧ ke ≤ 24)) (hbf : rgI bf (-128) 127 900) (hkw : ∀ j : Nat, j < 25 → kwf j = lZ (kwC j)) (hrx : RDX (tX bf ln) cu pl en ki va ke nm) (hys : 0 ≤ ys ∧ ys ≤ 30) (hde : 0 ≤ de ∧ de ≤ 3) (hyr0 : 0 ≤ yr ∧ yr + de ≤ 2 * ys) (hYs : YSY yr de ywf y1f y2f y3f ypf of0 W0 A0 B0 C0 P0 O0) (hV : YV_ n (yr, ys, de, W0, A0, B0, C0, P0, O0)) : WD (σ := ((Int × Int × Int × Int × Int × Int × Int × Int × Int × Int) × (Int64 × Int64) × ((Nat → Int32) × (Nat → Int32)) × (Unit))) l yX10_readEnd cX10_readEnd 2 (some .boolean) 3 0 0 D k [.ref hv] [(hv, .inr (10, [.ref hr1, .ref oo, .int (iZ de), .ref hy, .ref hs])), (oo, .inl (k 1, 3, .inl of0)), (hr1, .inr (4, [.ref tx, .ref kw, .int (iZ tp), .int (iZ ln), .int (iZ pl), .int (iZ en), .int (iZ ki), .int (iZ va), .int (iZ ke), .long nm, .int (iZ fk), .int (iZ fp)])), (tx, .inl (k 0, 900, .inl bf)), (kw, .inl (k 2, 25, .inr (.inl kwf))), (hy, .inr (9, [.ref yw, .ref y1, .ref y2, .ref y3, .ref yp, .int (iZ th), .int (iZ ys), .int (iZ yr)])), (yw, .inl (k 1, 60, .inl ywf)), (y1, .inl (k 1, 60, .inl y1f)), (y2, .inl (k 1, 60, .inl y2f)), (y3, .inl (k 1, 60, .inl y3f)), (yp, .inl (k 1, 60, .inl ypf)), (hs, .inr (5, [.ref hN, .ref hf, .ref hg, .int (iZ n), .int (iZ ni), .int (iZ lw), .int (iZ we)])), (hN, .inl (k 2, 6, .inr (.inl nf)))] (fun u => some (.int (iZ u.1.1))) (fun u => ((0 ≤ tp ∧ tp ≤ 900) ∧ (0 ≤ ln ∧ ln ≤ 900) ∧ (0 ≤ u.1.2.1 ∧ u.1.2.1 ≤ u.1.2.2.1) ∧ (u.1.2.2.1 ≤ ln) ∧ (0 ≤ u.1.2.2.2.1 ∧ u.1.2.2.2.1 ≤ 4) ∧ (-2147483648 ≤ u.1.2.2.2.2.1 ∧ u.1.2.2.2.2.1 < 2147483648) ∧ (-1 ≤ u.1.2.2.2.2.2.1 ∧ u.1.2.2.2.2.2.1 ≤ 24)) ∧ (((u.1.1 : Int) = 1 ∧ ∃ (q9 : Int) (W9 A9 B9 C9 P9 O9 : Int → Int), xEd (tX bf ln) cu (yr, ys, de, W0, A0, B0, C0, P0, O0) = .inr (q9, (u.1.2.2.2.2.2.2.2.2.2, ys, u.1.2.2.2.2.2.2.2.2.1, W9, A9, B9, C9, P9, O9)) ∧ cu < q9 ∧ RDX (tX bf ln) q9 u.1.2.1 u.1.2.2.1 u.1.2.2.2.1 u.1.2.2.2.2.1 u.1.2.2.2.2.2.1 u.2.1.2 ∧ YSY u.1.2.2.2.2.2.2.2.2.2 u.1.2.2.2.2.2.2.2.2.1 u.2.2.1.1 y1f y2f y3f u.2.2.1.2 of0 W9 A9 B9 C9 P9 O9 ∧ u.1.2.2.2.2.2.2.1 = fk ∧ u.1.2.2.2.2.2.2.2.1 = fp) ∨ ((u.1.1 : Int) = 0 ∧ xEd (tX bf ln) cu (yr, ys, de, W0, A0, B0, C0, P0, O0) = .inl (u.1.2.2.2.2.2.2.1, u.1.2.2.2.2.2.2.2.1)))) (fun u => [(hv, .inr (10, [.ref hr1, .ref oo, .int (iZ u.1.2.2.2.2.2.2.2.2.1), .ref hy, .ref hs])), (oo, .inl (k 1, 3, .inl of0)), (hr1, .inr (4, [.ref tx, .ref kw, .int (iZ tp), .int (iZ ln), .int (iZ u.1.2.1), .int (iZ u.1.2.2.1), .int (iZ u.1.2.2.2.1), .int (iZ u.1.2.2.2.2.1), .int (iZ u.1.2.2.2.2.2.1), .long u.2.1.2, .int (iZ u.1.2.2.2.2.2.2.1), .int (iZ u.1.2.2.2.2.2.2.2.1)])), (tx, .inl (k 0, 900, .inl bf)), (kw, .inl (k 2, 25, .inr (.inl kwf))), (hy, .inr (9, [.ref yw, .ref y1, .ref y2, .ref y3, .ref yp, .int (iZ th), .int (iZ ys), .int (iZ u.1.2.2.2.2.2.2.2.2.2)])), (yw, .inl (k 1, 60, .inl u.2.2.1.1)), (y1, .inl (k 1, 60, .inl y1f)), (y2, .inl (k 1, 60, .inl y2f)), (y3, .inl (k 1, 60, .inl y3f)), (yp, .inl (k 1, 60, .inl u.2.2.1.2)), (hs, .inr (5, [.ref hN, .ref hf, .ref hg, .int (iZ n), .int (iZ ni), .int (iZ lw), .int (iZ we)])), (hN, .inl (k 2, 6, .inr (.inl nf)))]) := by
  refine MW (by decide) (Nat.le_of_ble_eq_true rfl) (fun p e s m below meth c ls A hx hb hml hr hlocks hin hts hown hKK hP hD hS hA hl => ?_)
  have hK := hKK.1
  have hl : lv_has ls 2 [(0, .ref hv)] := hl
  obtain ⟨⟨ar_1, br_1⟩, cr_1, dr_1, er_1, fr_1, gr_1, hr_1⟩ := id hrx
  obtain ⟨⟨v1, v2, v3, v4, v0⟩, v5, v6, v7, v8, v9⟩ := id hV
  obtain ⟨jW, jA, jB, jC, jP, jO⟩ := id hYs
  refine lv_aload_n hx hb dX10_readEnd_0 rfl (lv_at hl 0 rfl) ?_
  refine va_get (D := D) (ci := 10) (v := .int (iZ de)) (C := RX10) (T := TX10) (N := 5) hx hb hts iX10 hown hK hP 0 rfl rfl 2 (bl rfl) (hts _ qf_X10_32) (fun _ h => h) rfl dX10_readEnd_1 ?_
  refine lv_if_ne (tgt := 16) hx hb dX10_readEnd_4 rfl (fun c_2 => ?_) (fun c_2 => ?_)
  ·
    have c_2 := mt (zeq (x := iZ de) (y := iZ 0) rfl rfl ⟨by omega, by omega⟩ wn_0).mpr c_2
    refine lv_aload_n hx hb dX10_readEnd_16 rfl (lv_at hl 0 rfl) ?_
    refine va_get (D := D) (ci := 10) (v := .ref hr1) (C := RX10) (T := TX10) (N := 5) hx hb hts iX10 hown hK hP 0 rfl rfl 0 (bl rfl) (hts _ qf_X10_15) (fun _ h => h) rfl dX10_readEnd_17 ?_
    refine CWV (As := []) (rest := []) (wc := _) (wr := [(hv, .inr (10, [.ref hr1, .ref oo, .int (iZ de), .ref hy, .ref hs])), (oo, .inl (k 1, 3, .inl of0)), (hy, .inr (9, [.ref yw, .ref y1, .ref y2, .ref y3, .ref yp, .int (iZ th), .int (iZ ys), .int (iZ yr)])), (yw, .inl (k 1, 60, .inl ywf)), (y1, .inl (k 1, 60, .inl y1f)), (y2, .inl (k 1, 60, .inl y2f)), (y3, .inl (k 1, 60, .inl y3f)), (yp, .inl (k 1, 60, .inl ypf)), (hs, .inr (5, [.ref hN, .ref hf, .ref hg, .int (iZ n), .int (iZ ni), .int (iZ lw), .int (iZ we)])), (hN, .inl (k 2, 6, .inr (.inl nf)))]) hx hb hml hown hts hKK hP hD hS hA (x_next l D k hr1 tx kw tp ln pl en ki va ke fk fp nm bf kwf ⟨⟨by omega, by omega⟩, ⟨by omega, by omega⟩, by omega, by omega⟩ hbf hkw) ci_X4_next qm_X10_59 ⟨Nat.le_of_ble_eq_true rfl, Nat.le_of_ble_eq_true rfl⟩ ⟨Nat.le_of_ble_eq_true rfl, Nat.le_of_ble_eq_true rfl⟩ [2, 3, 4] [0, 1, 5, 6, 7, 8, 9, 10, 11, 12] rfl rfl rfl rfl rfl (dj rfl) 0 rfl rfl rfl hl.1 rfl (Nat.le_of_ble_eq_true rfl) dX10_readEnd_20 (fun u_3 H locs hφ hP hD hS => ?_)
    obtain ⟨p_4, p_5⟩ : (RDX (tX bf ln) en u_3.1.2.1 u_3.1.2.2.1 u_3.1.2.2.2.1 u_3.1.2.2.2.2.1 u_3.1.2.2.2.2.2 u_3.2.1.2) ∧ ((0 ≤ tp ∧ tp ≤ 900) ∧ (0 ≤ ln ∧ ln ≤ 900) ∧ (0 ≤ u_3.1.2.1 ∧ u_3.1.2.1 ≤ u_3.1.2.2.1) ∧ (u_3.1.2.2.1 ≤ ln) ∧ (0 ≤ u_3.1.2.2.2.1 ∧ u_3.1.2.2.2.1 ≤ 4) ∧ (-2147483648 ≤ u_3.1.2.2.2.2.1 ∧ u_3.1.2.2.2.2.1 < 2147483648) ∧ (-1 ≤ u_3.1.2.2.2.2.2 ∧ u_3.1.2.2.2.2.2 ≤ 24)) := hφ
    have rx_6 := RDX.nx hrx p_4
    obtain ⟨⟨ar_7, br_7⟩, cr_7, dr_7, er_7, fr_7, gr_7, hr_7⟩ := id rx_6
    obtain ⟨t1u_8, t2u_8, t3u_8, t4u_8, t5u_8, t6u_8, t7u_8⟩ := id p_5
    refine W.eq (g2 := F0 m 23 ls []) rfl ?_
    refine lv_aload_n hx hb dX10_readEnd_23 rfl (lv_at hl 0 rfl) ?_
    refine lv_dup hx hb dX10_readEnd_24 rfl ?_
    refine va_get (D := D) (ci := 10) (v := .int (iZ de)) (C := RX10) (T := TX10) (N := 5) hx hb hts iX10 hown hK hP 0 rfl rfl 2 (bl rfl) (hts _ qf_X10_32) (fun _ h => h) rfl dX10_readEnd_25 ?_
    refine lv_iconst (v := iZ 1) hx hb dX10_readEnd_28 rfl ?_
    refine lv_isub hx hb dX10_readEnd_29 ?_
    refine lv_topi (fun x_9 ex_9 => ?_)
    obtain rfl : x_9 = iZ (de - 1) := ex_9.trans (iZ_sub de 1)
    refine va_put (D := D) (ci := 10) (v := .int (iZ (de - 1))) (ty := .int) (C := RX10) (T := TX10) (N := 5) hx hb hts iX10 tyX10 tyX10_ok nmX10 hown hK hP hD hS 0 rfl rfl 2 (bl rfl) (hts _ qf_X10_32) (fun _ h => h) rfl (by decide +kernel) rfl rfl (Nat.le_of_ble_eq_true rfl) dX10_readEnd_30 (fun H locs hP hD hS => ?_)
    refine lv_aload_n hx hb dX10_readEnd_33 rfl (lv_at hl 0 rfl) ?_
    refine va_get (D := D) (ci := 10) (v := .ref hy) (C := RX10) (T := TX10) (N := 5) hx hb hts iX10 hown hK hP 0 rfl rfl 3 (bl rfl) (hts _ qf_X10_19) (fun _ h => h) rfl dX10_readEnd_34 ?_
    refine lv_bipush (v := iZ 23) hx hb dX10_readEnd_37 bip_23 ?_
    refine CWV (As := [.int (iZ 23)]) (rest := []) (wc := _) (wr := [(hv, .inr (10, [.ref hr1, .ref oo, .int (iZ (de - 1)), .ref hy, .ref hs])), (oo, .inl (k 1, 3, .inl of0)), (y1, .inl (k 1, 60, .inl y1f)), (y2, .inl (k 1, 60, .inl y2f)), (y3, .inl (k 1, 60, .inl y3f)), (yp, .inl (k 1, 60, .inl ypf)), (hs, .inr (5, [.ref hN, .ref hf, .ref hg, .int (iZ n), .int (iZ ni), .int (iZ lw), .int (iZ we)])), (hN, .inl (k 2, 6, .inr (.inl nf))), (hr1, .inr (4, [.ref tx, .ref kw, .int (iZ tp), .int (iZ ln), .int (iZ u_3.1.2.1), .int (iZ u_3.1.2.2.1), .int (iZ u_3.1.2.2.2.1), .int (iZ u_3.1.2.2.2.2.1), .int (iZ u_3.1.2.2.2.2.2), .long u_3.2.1.2, .int (iZ fk), .int (iZ fp)])), (tx, .inl (k 0, 900, .inl bf)), (kw, .inl (k 2, 25, .inr (.inl kwf)))]) hx hb hml hown hts hKK hP hD hS hA (k_addRow l D k hy yw y1 y2 y3 yp ywf th ys yr 23 ⟨by omega, by omega⟩ ) ci_X9_addRow qm_X10_62 ⟨Nat.le_of_ble_eq_true rfl, Nat.le_of_ble_eq_true rfl⟩ ⟨Nat.le_of_ble_eq_true rfl, Nat.le_of_ble_eq_true rfl⟩ [2, 3] [0, 1, 4, 5, 6, 7, 8, 9, 10, 11, 12] rfl rfl rfl rfl rfl (dj rfl) 0 rfl rfl rfl hl.1 rfl (Nat.le_of_ble_eq_true rfl) dX10_readEnd_39 (fun u_10 H locs hφ hP hD hS => ?_)
    obtain ⟨f_11, hf_11⟩ : ∃ gg9, gg9 = upd ywf (iZ yr).toNatClampNeg (iZ 23) := ⟨_, rfl⟩
    rw [← hf_11] at hP hD
    refine W.eq (g2 := F0 m 42 ls [.int (iZ yr)]) rfl ?_
    refine lv_istore_n (lv' := [(1, .int (iZ yr)), (0, .ref hv)]) hx hb dX10_readEnd_42 rfl hl (bl rfl) rfl (fun ls hl => ?_)
    refine lv_aload_n hx hb dX10_readEnd_43 rfl (lv_at hl 1 rfl) ?_
    refine va_get (D := D) (ci := 10) (v := .ref hy) (C := RX10) (T := TX10) (N := 5) hx hb hts iX10 hown hK hP 0 rfl rfl 3 (bl rfl) (hts _ qf_X10_19) (fun _ h => h) rfl dX10_readEnd_44 ?_
    refine va_get (D := D) (ci := 9) (v := .ref yp) (C := RX9) (T := TX9) (N := 8) hx hb hts iX9 hown hK hP 11 rfl rfl 4 (bl rfl) (hts _ qf_X10_66) (fun _ h => h) rfl dX10_readEnd_47 ?_
    have hod := v7 (de - 1) (by omega) (by omega)
    have hoe := jO (de - 1) (by omega) (by omega) (by omega)
    refine lv_iload_n hx hb dX10_readEnd_50 rfl (lv_at hl 0 rfl) ?_
    refine lv_aload_n hx hb dX10_readEnd_51 rfl (lv_at hl 1 rfl) ?_
    refine va_get (D := D) (ci := 10) (v := .ref oo) (C := RX10) (T := TX10) (N := 5) hx hb hts iX10 hown hK hP 0 rfl rfl 1 (bl rfl) (hts _ qf_X10_9) (fun _ h => h) rfl dX10_readEnd_52 ?_
    refine lv_aload_n hx hb dX10_readEnd_55 rfl (lv_at hl 1 rfl) ?_
    refine va_get (D := D) (ci := 10) (v := .int (iZ (de - 1))) (C := RX10) (T := TX10) (N := 5) hx hb hts iX10 hown hK hP 0 rfl rfl 2 (bl rfl) (hts _ qf_X10_32) (fun _ h => h) rfl dX10_readEnd_56 ?_
    refine va_iald hx hb hK hP 1 1 rfl rfl (zin (e := (de - 1)) (n := 3) ⟨by omega, by omega⟩ (bl rfl)) dX10_readEnd_59 ?_
    refine lv_topi (fun x_12 ex_12 => ?_)
    obtain rfl : x_12 = iZ (gz of0 (de - 1)) := ex_12.trans (gz_eq ⟨by omega, by omega⟩)
    have h_13 := gz_rg of0 (de - 1)
    refine va_iast hx hb hK hP hD hS 5 1 rfl rfl (zin (e := yr) (n := 60) ⟨by omega, by omega⟩ (bl rfl)) dX10_readEnd_60 (fun H locs hP hD hS => ?_)
    obtain ⟨f_14, hf_14⟩ : ∃ gg9, gg9 = upd ypf (iZ yr).toNatClampNeg (iZ (gz of0 (de - 1))) := ⟨_, rfl⟩
    rw [← hf_14] at hP hD
    refine lv_aload_n hx hb dX10_readEnd_61 rfl (lv_at hl 1 rfl) ?_
    refine va_get (D := D) (ci := 10) (v := .ref hy) (C := RX10) (T := TX10) (N := 5) hx hb hts iX10 hown hK hP 0 rfl rfl 3 (bl rfl) (hts _ qf_X10_19) (fun _ h => h) rfl dX10_readEnd_62 ?_
    refine va_get (D := D) (ci := 9) (v := .ref yp) (C := RX9) (T := TX9) (N := 8) hx hb hts iX9 hown hK hP 11 rfl rfl 4 (bl rfl) (hts _ qf_X10_66) (fun _ h => h) rfl dX10_readEnd_65 ?_
    refine lv_aload_n hx hb dX10_readEnd_68 rfl (lv_at hl 1 rfl) ?_
    refine va_get (D := D) (ci := 10) (v := .ref oo) (C := RX10) (T := TX10) (N := 5) hx hb hts iX10 hown hK hP 0 rfl rfl 1 (bl rfl) (hts _ qf_X10_9) (fun _ h => h) rfl dX10_readEnd_69 ?_
    refine lv_aload_n hx hb dX10_readEnd_72 rfl (lv_at hl 1 rfl) ?_
    refine va_get (D := D) (ci := 10) (v := .int (iZ (de - 1))) (C := RX10) (T := TX10) (N := 5) hx hb hts iX10 hown hK hP 0 rfl rfl 2 (bl rfl) (hts _ qf_X10_32) (fun _ h => h) rfl dX10_readEnd_73 ?_
    refine va_iald hx hb hK hP 1 1 rfl rfl (zin (e := (de - 1)) (n := 3) ⟨by omega, by omega⟩ (bl rfl)) dX10_readEnd_76 ?_
    refine lv_topi (fun x_15 ex_15 => ?_)
    obtain rfl : x_15 = iZ (gz of0 (de - 1)) := ex_15.trans (gz_eq ⟨by omega, by omega⟩)
    have h_16 := gz_rg of0 (de - 1)
    refine lv_iload_n hx hb dX10_readEnd_77 rfl (lv_at hl 0 rfl) ?_
    refine va_iast hx hb hK hP hD hS 5 1 rfl rfl (zin (e := (gz of0 (de - 1))) (n := 60) ⟨by omega, by omega⟩ (bl rfl)) dX10_readEnd_78 (fun H locs hP hD hS => ?_)
    obtain ⟨f_17, hf_17⟩ : ∃ gg9, gg9 = upd f_14 (iZ (gz of0 (de - 1))).toNatClampNeg (iZ yr) := ⟨_, rfl⟩
    rw [← hf_17] at hP hD
    refine lv_aload_n hx hb dX10_readEnd_79 rfl (lv_at hl 1 rfl) ?_
    refine va_get (D := D) (ci := 10) (v := .ref hr1) (C := RX10) (T := TX10) (N := 5) hx hb hts iX10 hown hK hP 0 rfl rfl 0 (bl rfl) (hts _ qf_X10_15) (fun _ h => h) rfl dX10_readEnd_80 ?_
    refine lv_bipush (v := iZ 59) hx hb dX10_readEnd_83 bip_59 ?_
    refine CWV (As := [.int (iZ 59)]) (rest := []) (wc := _) (wr := [(hv, .inr (10, [.ref hr1, .ref oo, .int (iZ (de - 1)), .ref hy, .ref hs])), (oo, .inl (k 1, 3, .inl of0)), (y1, .inl (k 1, 60, .inl y1f)), (y2, .inl (k 1, 60, .inl y2f)), (y3, .inl (k 1, 60, .inl y3f)), (yp, .inl (k 1, 60, .inl f_17)), (hs, .inr (5, [.ref hN, .ref hf, .ref hg, .int (iZ n), .int (iZ ni), .int (iZ lw), .int (iZ we)])), (hN, .inl (k 2, 6, .inr (.inl nf))), (hy, .inr (9, [.ref yw, .ref y1, .ref y2, .ref y3, .ref yp, .int (iZ th), .int (iZ ys), .int (iZ (yr + 1))])), (yw, .inl (k 1, 60, .inl f_11))]) hx hb hml hown hts hKK hP hD hS hA (x_takeSign l D k hr1 tx kw tp ln u_3.1.2.1 u_3.1.2.2.1 u_3.1.2.2.2.1 u_3.1.2.2.2.2.1 u_3.1.2.2.2.2.2 fk fp u_3.2.1.2 bf kwf (xEn (tX bf ln) cu) 59 (by first | with_reducible assumption | exact ⟨⟨by omega, by omega⟩, ⟨by omega, by omega⟩, ⟨by omega, by omega⟩, by omega, ⟨by omega, by omega⟩, ⟨by omega, by omega⟩, by omega, by omega⟩) hbf hkw rx_6 ⟨by omega, by omega⟩) ci_X4_takeSign qm_X10_69 ⟨Nat.le_of_ble_eq_true rfl, Nat.le_of_ble_eq_true rfl⟩ ⟨Nat.le_of_ble_eq_true rfl, Nat.le_of_ble_eq_true rfl⟩ [8, 9, 10] [0, 1, 2, 3, 4, 5, 6, 7, 11, 12] rfl rfl rfl rfl rfl (dj rfl) 0 rfl rfl rfl hl.1 rfl (Nat.le_of_ble_eq_true rfl) dX10_readEnd_85 (fun u_18 H locs hφ hP hD hS => ?_)
    obtain ⟨p_19, p_20⟩ : ((0 ≤ tp ∧ tp ≤ 900) ∧ (0 ≤ ln ∧ ln ≤ 900) ∧ (0 ≤ u_18.1.2.1 ∧ u_18.1.2.1 ≤ u_18.1.2.2.1) ∧ (u_18.1.2.2.1 ≤ ln) ∧ (0 ≤ u_18.1.2.2.2.1 ∧ u_18.1.2.2.2.1 ≤ 4) ∧ (-2147483648 ≤ u_18.1.2.2.2.2.1 ∧ u_18.1.2.2.2.2.1 < 2147483648) ∧ (-1 ≤ u_18.1.2.2.2.2.2.1 ∧ u_18.1.2.2.2.2.2.1 ≤ 24)) ∧ (((u_18.1.1 : Int) = 1 ∧ ∃ q9 : Int, xTs (tX bf ln) 59 (xEn (tX bf ln) cu) = .inr q9 ∧ (xEn (tX bf ln) cu) < q9 ∧ RDX (tX bf ln) q9 u_18.1.2.1 u_18.1.2.2.1 u_18.1.2.2.2.1 u_18.1.2.2.2.2.1 u_18.1.2.2.2.2.2.1 u_18.2.1.2 ∧ u_18.1.2.2.2.2.2.2.1 = fk ∧ u_18.1.2.2.2.2.2.2.2 = fp) ∨ ((u_18.1.1 : Int) = 0 ∧ xTs (tX bf ln) 59 (xEn (tX bf ln) cu) = .inl (u_18.1.2.2.2.2.2.2.1, u_18.1.2.2.2.2.2.2.2))) := hφ
    refine W.eq (g2 := F0 m 88 ls [.int (iZ u_18.1.1)]) rfl ?_
    rcases p_20 with ⟨qt_21, cut_21, st_21, lt_21, xt_21, ut_21, vt_21⟩ | ⟨qt_21, st_21⟩
    ·
      rw [qt_21]
      obtain ⟨⟨ar_22, br_22⟩, cr_22, dr_22, er_22, fr_22, gr_22, hr_22⟩ := id xt_21
      have vr := v6 yr (Int.le_refl _)
      have jP1 := yRw_u jP (v := gz of0 (de - 1)) hf_14 ⟨by omega, by omega⟩ ⟨by omega, by omega⟩
      rw [hoe] at jP1
      have jP2 := yRw_s jP1 (o := gz of0 (de - 1)) (v := yr) hf_17 ⟨by omega, by omega⟩ ⟨by omega, by omega⟩
      rw [hoe] at jP2
      exact EWz hx hb hr hlocks hS ((1, u_18.1.2.1, u_18.1.2.2.1, u_18.1.2.2.2.1, u_18.1.2.2.2.2.1, u_18.1.2.2.2.2.2.1, u_18.1.2.2.2.2.2.2.1, u_18.1.2.2.2.2.2.2.2, (de - 1), (yr + 1)), (0, u_18.2.1.2), (f_11, f_17), ()) rfl rfl ⟨(show (0 ≤ tp ∧ tp ≤ 900) ∧ (0 ≤ ln ∧ ln ≤ 900) ∧ (0 ≤ u_18.1.2.1 ∧ u_18.1.2.1 ≤ u_18.1.2.2.1) ∧ (u_18.1.2.2.1 ≤ ln) ∧ (0 ≤ u_18.1.2.2.2.1 ∧ u_18.1.2.2.2.1 ≤ 4) ∧ (-2147483648 ≤ u_18.1.2.2.2.2.1 ∧ u_18.1.2.2.2.2.1 < 2147483648) ∧ (-1 ≤ u_18.1.2.2.2.2.2.1 ∧ u_18.1.2.2.2.2.2.1 ≤ 24) from (by first | with_reducible assumption | exact ⟨⟨by omega, by omega⟩, ⟨by omega, by omega⟩, ⟨by omega, by omega⟩, by omega, ⟨by omega, by omega⟩, ⟨by omega, by omega⟩, by omega, by omega⟩)), (show ((1 : Int) = 1 ∧ ∃ (q9 : Int) (W9 A9 B9 C9 P9 O9 : Int → Int), xEd (tX bf ln) cu (yr, ys, de, W0, A0, B0, C0, P0, O0) = .inr (q9, ((yr + 1), ys, (de - 1), W9, A9, B9, C9, P9, O9)) ∧ cu < q9 ∧ RDX (tX bf ln) q9 u_18.1.2.1 u_18.1.2.2.1 u_18.1.2.2.2.1 u_18.1.2.2.2.2.1 u_18.1.2.2.2.2.2.1 u_18.2.1.2 ∧ YSY (yr + 1) (de - 1) f_11 y1f y2f y3f f_17 of0 W9 A9 B9 C9 P9 O9 ∧ u_18.1.2.2.2.2.2.2.1 = fk ∧ u_18.1.2.2.2.2.2.2.2 = fp) ∨ ((1 : Int) = 0 ∧ xEd (tX bf ln) cu (yr, ys, de, W0, A0, B0, C0, P0, O0) = .inl (u_18.1.2.2.2.2.2.2.1, u_18.1.2.2.2.2.2.2.2)) from (Or.inl ⟨rfl, _, _, _, _, _, _, _, xEd_ok (by omega) st_21, by omega, xt_21, ⟨yRw_u jW hf_11 ⟨by omega, by omega⟩ ⟨by omega, by omega⟩, yRw_g jA vr.2.1, yRw_g jB vr.2.2.1, yRw_g jC vr.2.2.2.1, jP2, fun e9 h1 h2 h3 => jO e9 h1 (by omega) h3⟩, by omega, by omega⟩))⟩ (hP.sub [0, 1, 10, 11, 12, 8, 9, 2, 3, 4, 5, 6, 7] rfl) (hD.sub [0, 1, 10, 11, 12, 8, 9, 2, 3, 4, 5, 6, 7] rfl rfl) dX10_readEnd_88
    ·
      rw [qt_21]
      exact EWz hx hb hr hlocks hS ((0, u_18.1.2.1, u_18.1.2.2.1, u_18.1.2.2.2.1, u_18.1.2.2.2.2.1, u_18.1.2.2.2.2.2.1, u_18.1.2.2.2.2.2.2.1, u_18.1.2.2.2.2.2.2.2, (de - 1), (yr + 1)), (0, u_18.2.1.2), (f_11, f_17), ()) rfl rfl ⟨(show (0 ≤ tp ∧ tp ≤ 900) ∧ (0 ≤ ln ∧ ln ≤ 900) ∧ (0 ≤ u_18.1.2.1 ∧ u_18.1.2.1 ≤ u_18.1.2.2.1) ∧ (u_18.1.2.2.1 ≤ ln) ∧ (0 ≤ u_18.1.2.2.2.1 ∧ u_18.1.2.2.2.1 ≤ 4) ∧ (-2147483648 ≤ u_18.1.2.2.2.2.1 ∧ u_18.1.2.2.2.2.1 < 2147483648) ∧ (-1 ≤ u_18.1.2.2.2.2.2.1 ∧ u_18.1.2.2.2.2.2.1 ≤ 24) from (by first | with_reducible assumption | exact ⟨⟨by omega, by omega⟩, ⟨by omega, by omega⟩, ⟨by omega, by omega⟩, by omega, ⟨by omega, by omega⟩, ⟨by omega, by omega⟩, by omega, by omega⟩)), (show ((0 : Int) = 1 ∧ ∃ (q9 : Int) (W9 A9 B9 C9 P9 O9 : Int → Int), xEd (tX bf ln) cu (yr, ys, de, W0, A0, B0, C0, P0, O0) = .inr (q9, ((yr + 1), ys, (de - 1), W9, A9, B9, C9, P9, O9)) ∧ cu < q9 ∧ RDX (tX bf ln) q9 u_18.1.2.1 u_18.1.2.2.1 u_18.1.2.2.2.1 u_18.1.2.2.2.2.1 u_18.1.2.2.2.2.2.1 u_18.2.1.2 ∧ YSY (yr + 1) (de - 1) f_11 y1f y2f y3f f_17 of0 W9 A9 B9 C9 P9 O9 ∧ u_18.1.2.2.2.2.2.2.1 = fk ∧ u_18.1.2.2.2.2.2.2.2 = fp) ∨ ((0 : Int) = 0 ∧ xEd (tX bf ln) cu (yr, ys, de, W0, A0, B0, C0, P0, O0) = .inl (u_18.1.2.2.2.2.2.2.1, u_18.1.2.2.2.2.2.2.2)) from (Or.inr ⟨rfl, xEd_l (by omega) st_21⟩))⟩ (hP.sub [0, 1, 10, 11, 12, 8, 9, 2, 3, 4, 5, 6, 7] rfl) (hD.sub [0, 1, 10, 11, 12, 8, 9, 2, 3, 4, 5, 6, 7] rfl rfl) dX10_readEnd_88
  ·
    have c_2 := (zeq (x := iZ de) (y := iZ 0) rfl rfl ⟨by omega, by omega⟩ wn_0).mp c_2
    refine lv_aload_n hx hb dX10_readEnd_7 rfl (lv_at hl 0 rfl) ?_
    refine va_get (D := D) (ci := 10) (v := .ref hr1) (C := RX10) (T := TX10) (N := 5) hx hb hts iX10 hown hK hP 0 rfl rfl 0 (bl rfl) (hts _ qf_X10_15) (fun _ h => h) rfl dX10_readEnd_8 ?_
    refine lv_iconst (v := iZ 2) hx hb dX10_readEnd_11 rfl ?_
    refine CWV (As := [.int (iZ 2)]) (rest := []) (wc := _) (wr := [(hv, .inr (10, [.ref hr1, .ref oo, .int (iZ de), .ref hy, .ref hs])), (oo, .inl (k 1, 3, .inl of0)), (hy, .inr (9, [.ref yw, .ref y1, .ref y2, .ref y3, .ref yp, .int (iZ th), .int (iZ ys), .int (iZ yr)])), (yw, .inl (k 1, 60, .inl ywf)), (y1, .inl (k 1, 60, .inl y1f)), (y2, .inl (k 1, 60, .inl y2f)), (y3, .inl (k 1, 60, .inl y3f)), (yp, .inl (k 1, 60, .inl ypf)), (hs, .inr (5, [.ref hN, .ref hf, .ref hg, .int (iZ n), .int (iZ ni), .int (iZ lw), .int (iZ we)])), (hN, .inl (k 2, 6, .inr (.inl nf)))]) hx hb hml hown hts hKK hP hD hS hA (x_fail l D k hr1 tx kw tp ln pl en ki va ke fk fp nm bf kwf cu 2 (by first | with_reducible assumption | exact ⟨⟨by omega, by omega⟩, ⟨by omega, by omega⟩, ⟨by omega, by omega⟩, by omega, ⟨by omega, by omega⟩, ⟨by omega, by omega⟩, by omega, by omega⟩) hrx) ci_X4_fail qm_X10_51 ⟨Nat.le_of_ble_eq_true rfl, Nat.le_of_ble_eq_true rfl⟩ ⟨Nat.le_of_ble_eq_true rfl, Nat.le_of_ble_eq_true rfl⟩ [2, 3, 4] [0, 1, 5, 6, 7, 8, 9, 10, 11, 12] rfl rfl rfl rfl rfl (dj rfl) 0 rfl rfl rfl hl.1 rfl (Nat.le_of_ble_eq_true rfl) dX10_readEnd_12 (fun u_23 H locs hφ hP hD hS => ?_)
    have p_24 : u_23.1.2.1 = xFl (tX bf ln) cu 2 ∧ u_23.1.2.2 = xPl (tX bf ln) cu := hφ
    refine W.eq (g2 := F0 m 15 ls [.int (iZ 0)]) rfl ?_
    exact EWz hx hb hr hlocks hS ((0, pl, en, ki, va, ke, u_23.1.2.1, u_23.1.2.2, de, yr), (0, nm), (ywf, ypf), ()) rfl rfl ⟨(show (0 ≤ tp ∧ tp ≤ 900) ∧ (0 ≤ ln ∧ ln ≤ 900) ∧ (0 ≤ pl ∧ pl ≤ en) ∧ (en ≤ ln) ∧ (0 ≤ ki ∧ ki ≤ 4) ∧ (-2147483648 ≤ va ∧ va < 2147483648) ∧ (-1 ≤ ke ∧ ke ≤ 24) from (by first | with_reducible assumption | exact ⟨⟨by omega, by omega⟩, ⟨by omega, by omega⟩, ⟨by omega, by omega⟩, by omega, ⟨by omega, by omega⟩, ⟨by omega, by omega⟩, by omega, by omega⟩)), (show ((0 : Int) = 1 ∧ ∃ (q9 : Int) (W9 A9 B9 C9 P9 O9 : Int → Int), xEd (tX bf ln) cu (yr, ys, de, W0, A0, B0, C0, P0, O0) = .inr (q9, (yr, ys, de, W9, A9, B9, C9, P9, O9)) ∧ cu < q9 ∧ RDX (tX bf ln) q9 pl en ki va ke nm ∧ YSY yr de ywf y1f y2f y3f ypf of0 W9 A9 B9 C9 P9 O9 ∧ u_23.1.2.1 = fk ∧ u_23.1.2.2 = fp) ∨ ((0 : Int) = 0 ∧ xEd (tX bf ln) cu (yr, ys, de, W0, A0, B0, C0, P0, O0) = .inl (u_23.1.2.1, u_23.1.2.2)) from (Or.inr ⟨rfl, xEd_2 (by omega) p_24⟩))⟩ (hP.sub [0, 1, 10, 11, 12, 2, 3, 4, 5, 6, 7, 8, 9] rfl) (hD.sub [0, 1, 10, 11, 12, 2, 3, 4, 5, 6, 7, 8, 9] rfl rfl) dX10_readEnd_15
set_option maxHeartbeats 4000000 in
set_option maxRecDepth 100000 in
theorem x_isStep (l : Launch) (D : va_G) (k : Nat → ClassId) (x : Int) (hx9 : -2147483648 ≤ x ∧ x < 2147483648) : RP l yX10_isStep cX10_isStep 1 (some .boolean) 0 D k [.int (iZ x)] [] (fun z => ((z : Int) = 1 ∧ ¬ x = 23 ∧ (Unit → (x = 15 ∨ x = 16 ∨ x = 17 ∨ x = 18 ∨ x = 19 ∨ x = 22 ∨ x = 24))) ∨ ((z : Int) = 0 ∧ (Unit → ¬ (x = 15 ∨ x = 16 ∨ x = 17 ∨ x = 18 ∨ x = 19 ∨ x = 22 ∨ x = 24)))) := by
  refine MRP (by decide) (Nat.le_of_ble_eq_true rfl) (fun p e s m below meth c ls hx hb hml hr hlocks hts hown hKK hP hl => ?_)
  have hK := hKK.1
  have hl : lv_has ls 1 [(0, .int (iZ x))] := hl
  refine lv_iload_n hx hb dX10_isStep_0 rfl (lv_at hl 0 rfl) ?_
  refine lv_bipush (v := iZ 15) hx hb dX10_isStep_1 bip_15 ?_
  refine lv_icmp_eq (tgt := 42) hx hb dX10_isStep_3 rfl (fun c_1 => ?_) (fun c_1 => ?_)
  ·
    have c_1 := (zeq (x := iZ x) (y := iZ 15) rfl rfl ⟨by omega, by omega⟩ wn_15).mp c_1
    refine lv_iconst (v := iZ 1) hx hb dX10_isStep_42 rfl ?_
    refine lv_goto (tgt := 47) hx hb dX10_isStep_43 rfl ?_
    exact EPz hx hb hr hlocks (by omega) (Or.inl ⟨rfl, by omega, fun _ => by omega⟩) dX10_isStep_47
  ·
    have c_1 := mt (zeq (x := iZ x) (y := iZ 15) rfl rfl ⟨by omega, by omega⟩ wn_15).mpr c_1
    refine lv_iload_n hx hb dX10_isStep_6 rfl (lv_at hl 0 rfl) ?_
    refine lv_bipush (v := iZ 16) hx hb dX10_isStep_7 bip_16 ?_
    refine lv_icmp_eq (tgt := 42) hx hb dX10_isStep_9 rfl (fun c_2 => ?_) (fun c_2 => ?_)
    ·
      have c_2 := (zeq (x := iZ x) (y := iZ 16) rfl rfl ⟨by omega, by omega⟩ wn_16).mp c_2
      refine lv_iconst (v := iZ 1) hx hb dX10_isStep_42 rfl ?_
      refine lv_goto (tgt := 47) hx hb dX10_isStep_43 rfl ?_
      exact EPz hx hb hr hlocks (by omega) (Or.inl ⟨rfl, by omega, fun _ => by omega⟩) dX10_isStep_47
    ·
      have c_2 := mt (zeq (x := iZ x) (y := iZ 16) rfl rfl ⟨by omega, by omega⟩ wn_16).mpr c_2
      refine lv_iload_n hx hb dX10_isStep_12 rfl (lv_at hl 0 rfl) ?_
      refine lv_bipush (v := iZ 17) hx hb dX10_isStep_13 bip_17 ?_
      refine lv_icmp_eq (tgt := 42) hx hb dX10_isStep_15 rfl (fun c_3 => ?_) (fun c_3 => ?_)
      ·
        have c_3 := (zeq (x := iZ x) (y := iZ 17) rfl rfl ⟨by omega, by omega⟩ wn_17).mp c_3
        refine lv_iconst (v := iZ 1) hx hb dX10_isStep_42 rfl ?_
        refine lv_goto (tgt := 47) hx hb dX10_isStep_43 rfl ?_
        exact EPz hx hb hr hlocks (by omega) (Or.inl ⟨rfl, by omega, fun _ => by omega⟩) dX10_isStep_47
      ·
        have c_3 := mt (zeq (x := iZ x) (y := iZ 17) rfl rfl ⟨by omega, by omega⟩ wn_17).mpr c_3
        refine lv_iload_n hx hb dX10_isStep_18 rfl (lv_at hl 0 rfl) ?_
        refine lv_bipush (v := iZ 18) hx hb dX10_isStep_19 bip_18 ?_
        refine lv_icmp_eq (tgt := 42) hx hb dX10_isStep_21 rfl (fun c_4 => ?_) (fun c_4 => ?_)
        ·
          have c_4 := (zeq (x := iZ x) (y := iZ 18) rfl rfl ⟨by omega, by omega⟩ wn_18).mp c_4
          refine lv_iconst (v := iZ 1) hx hb dX10_isStep_42 rfl ?_
          refine lv_goto (tgt := 47) hx hb dX10_isStep_43 rfl ?_
          exact EPz hx hb hr hlocks (by omega) (Or.inl ⟨rfl, by omega, fun _ => by omega⟩) dX10_isStep_47
        ·
          have c_4 := mt (zeq (x := iZ x) (y := iZ 18) rfl rfl ⟨by omega, by omega⟩ wn_18).mpr c_4
          refine lv_iload_n hx hb dX10_isStep_24 rfl (lv_at hl 0 rfl) ?_
          refine lv_bipush (v := iZ 19) hx hb dX10_isStep_25 bip_19 ?_
          refine lv_icmp_eq (tgt := 42) hx hb dX10_isStep_27 rfl (fun c_5 => ?_) (fun c_5 => ?_)
          ·
            have c_5 := (zeq (x := iZ x) (y := iZ 19) rfl rfl ⟨by omega, by omega⟩ wn_19).mp c_5
            refine lv_iconst (v := iZ 1) hx hb dX10_isStep_42 rfl ?_
            refine lv_goto (tgt := 47) hx hb dX10_isStep_43 rfl ?_
            exact EPz hx hb hr hlocks (by omega) (Or.inl ⟨rfl, by omega, fun _ => by omega⟩) dX10_isStep_47
          ·
            have c_5 := mt (zeq (x := iZ x) (y := iZ 19) rfl rfl ⟨by omega, by omega⟩ wn_19).mpr c_5
            refine lv_iload_n hx hb dX10_isStep_30 rfl (lv_at hl 0 rfl) ?_
            refine lv_bipush (v := iZ 22) hx hb dX10_isStep_31 bip_22 ?_
            refine lv_icmp_eq (tgt := 42) hx hb dX10_isStep_33 rfl (fun c_6 => ?_) (fun c_6 => ?_)
            ·
              have c_6 := (zeq (x := iZ x) (y := iZ 22) rfl rfl ⟨by omega, by omega⟩ wn_22).mp c_6
              refine lv_iconst (v := iZ 1) hx hb dX10_isStep_42 rfl ?_
              refine lv_goto (tgt := 47) hx hb dX10_isStep_43 rfl ?_
              exact EPz hx hb hr hlocks (by omega) (Or.inl ⟨rfl, by omega, fun _ => by omega⟩) dX10_isStep_47
            ·
              have c_6 := mt (zeq (x := iZ x) (y := iZ 22) rfl rfl ⟨by omega, by omega⟩ wn_22).mpr c_6
              refine lv_iload_n hx hb dX10_isStep_36 rfl (lv_at hl 0 rfl) ?_
              refine lv_bipush (v := iZ 24) hx hb dX10_isStep_37 bip_24 ?_
              refine lv_icmp_ne (tgt := 46) hx hb dX10_isStep_39 rfl (fun c_7 => ?_) (fun c_7 => ?_)
              ·
                have c_7 := mt (zeq (x := iZ x) (y := iZ 24) rfl rfl ⟨by omega, by omega⟩ wn_24).mpr c_7
                refine lv_iconst (v := iZ 0) hx hb dX10_isStep_46 rfl ?_
                exact EPz hx hb hr hlocks (by omega) (Or.inr ⟨rfl, fun _ => by omega⟩) dX10_isStep_47
              ·
                have c_7 := (zeq (x := iZ x) (y := iZ 24) rfl rfl ⟨by omega, by omega⟩ wn_24).mp c_7
                refine lv_iconst (v := iZ 1) hx hb dX10_isStep_42 rfl ?_
                refine lv_goto (tgt := 47) hx hb dX10_isStep_43 rfl ?_
                exact EPz hx hb hr hlocks (by omega) (Or.inl ⟨rfl, by omega, fun _ => by omega⟩) dX10_isStep_47
set_option maxHeartbeats 4000000 in
set_option maxRecDepth 100000 in
theorem x_readStep (l : Launch) (D : va_G) (k : Nat → ClassId) (hv : Nat) (oo : Nat) (hr1 : Nat) (tx : Nat) (kw : Nat) (hs : Nat) (hN : Nat) (hf : Nat) (hg : Nat) (de : Int) (of0 : Nat → Int32) (tp : Int) (ln : Int) (pl : Int) (en : Int) (ki : Int) (va : Int) (ke : Int) (fk : Int) (fp : Int) (nm : Int64) (bf : Nat → Int32) (kwf : Nat → Int64) (hy : Nat) (yw : Nat) (y1 : Nat) (y2 : Nat) (y3 : Nat) (yp : Nat) (th : Int) (ys : Int) (yr : Int) (ywf : Nat → Int32) (y1f : Nat → Int32) (y2f : Nat → Int32) (y3f : Nat → Int32) (ypf : Nat → Int32) (n : Int) (ni : Int) (lw : Int) (we : Int) (nf : Nat → Int64) (cu : Int) (N : Int → Int) (W0 : Int → Int) (A0 : Int → Int) (B0 : Int → Int) (C0 : Int → Int) (P0 : Int → Int) (O0 : Int → Int) (hI1 : (0 ≤ tp ∧ tp ≤ 900) ∧ (0 ≤ ln ∧ ln ≤ 900) ∧ (0 ≤ pl ∧ pl ≤ en) ∧ (en ≤ ln) ∧ (0 ≤ ki ∧ ki ≤ 4) ∧ (-2147483648 ≤ va ∧ va < 2147483648) ∧ (-1 ≤ ke ∧ ke ≤ 24)) (hbf : rgI bf (-128) 127 900) (hkw : ∀ j : Nat, j < 25 → kwf j = lZ (kwC j)) (hrx : RDX (tX bf ln) cu pl en ki va ke nm) (hn : 0 ≤ n ∧ n ≤ 6) (hys : 0 ≤ ys ∧ ys ≤ 30) (hde : 0 ≤ de ∧ de ≤ 3) (hyr0 : 0 ≤ yr ∧ yr + de ≤ 2 * ys) (hYs : YSY yr de ywf y1f y2f y3f ypf of0 W0 A0 B0 C0 P0 O0) (hV : YV_ n (yr, ys, de, W0, A0, B0, C0, P0, O0)) (hns : xNs nf N n) : WD (σ := ((Int × Int × Int × Int × Int × Int × Int × Int × Int × Int × Int) × (Int64 × Int64) × ((Nat → Int32) × (Nat → Int32) × (Nat → Int32) × (Nat → Int32) × (Nat → Int32)) × (Unit))) l yX10_readStep cX10_readStep 4 (some .boolean) 5 0 0 D k [.ref hv] [(hv, .inr (10, [.ref hr1, .ref oo, .int (iZ de), .ref hy, .ref hs])), (oo, .inl (k 1, 3, .inl of0)), (hr1, .inr (4, [.ref tx, .ref kw, .int (iZ tp), .int (iZ ln), .int (iZ pl), .int (iZ en), .int (iZ ki), .int (iZ va), .int (iZ ke), .long nm, .int (iZ fk), .int (iZ fp)])), (tx, .inl (k 0, 900, .inl bf)), (kw, .inl (k 2, 25, .inr (.inl kwf))), (hy, .inr (9, [.ref yw, .ref y1, .ref y2, .ref y3, .ref yp, .int (iZ th), .int (iZ ys), .int (iZ yr)])), (yw, .inl (k 1, 60, .inl ywf)), (y1, .inl (k 1, 60, .inl y1f)), (y2, .inl (k 1, 60, .inl y2f)), (y3, .inl (k 1, 60, .inl y3f)), (yp, .inl (k 1, 60, .inl ypf)), (hs, .inr (5, [.ref hN, .ref hf, .ref hg, .int (iZ n), .int (iZ ni), .int (iZ lw), .int (iZ we)])), (hN, .inl (k 2, 6, .inr (.inl nf)))] (fun u => some (.int (iZ u.1.1))) (fun u => ((0 ≤ tp ∧ tp ≤ 900) ∧ (0 ≤ ln ∧ ln ≤ 900) ∧ (0 ≤ u.1.2.1 ∧ u.1.2.1 ≤ u.1.2.2.1) ∧ (u.1.2.2.1 ≤ ln) ∧ (0 ≤ u.1.2.2.2.1 ∧ u.1.2.2.2.1 ≤ 4) ∧ (-2147483648 ≤ u.1.2.2.2.2.1 ∧ u.1.2.2.2.2.1 < 2147483648) ∧ (-1 ≤ u.1.2.2.2.2.2.1 ∧ u.1.2.2.2.2.2.1 ≤ 24)) ∧ (((u.1.1 : Int) = 1 ∧ ∃ (q9 : Int) (W9 A9 B9 C9 P9 O9 : Int → Int), xSt (tX bf ln) N n cu (yr, ys, de, W0, A0, B0, C0, P0, O0) = .inr (q9, (u.1.2.2.2.2.2.2.2.2.2.2, u.1.2.2.2.2.2.2.2.2.2.1, u.1.2.2.2.2.2.2.2.2.1, W9, A9, B9, C9, P9, O9)) ∧ cu < q9 ∧ RDX (tX bf ln) q9 u.1.2.1 u.1.2.2.1 u.1.2.2.2.1 u.1.2.2.2.2.1 u.1.2.2.2.2.2.1 u.2.1.2 ∧ YSY u.1.2.2.2.2.2.2.2.2.2.2 u.1.2.2.2.2.2.2.2.2.1 u.2.2.1.2.1 u.2.2.1.2.2.1 u.2.2.1.2.2.2.1 u.2.2.1.2.2.2.2 ypf u.2.2.1.1 W9 A9 B9 C9 P9 O9 ∧ u.1.2.2.2.2.2.2.1 = fk ∧ u.1.2.2.2.2.2.2.2.1 = fp) ∨ ((u.1.1 : Int) = 0 ∧ xSt (tX bf ln) N n cu (yr, ys, de, W0, A0, B0, C0, P0, O0) = .inl (u.1.2.2.2.2.2.2.1, u.1.2.2.2.2.2.2.2.1)))) (fun u => [(hv, .inr (10, [.ref hr1, .ref oo, .int (iZ u.1.2.2.2.2.2.2.2.2.1), .ref hy, .ref hs])), (oo, .inl (k 1, 3, .inl u.2.2.1.1)), (hr1, .inr (4, [.ref tx, .ref kw, .int (iZ tp), .int (iZ ln), .int (iZ u.1.2.1), .int (iZ u.1.2.2.1), .int (iZ u.1.2.2.2.1), .int (iZ u.1.2.2.2.2.1), .int (iZ u.1.2.2.2.2.2.1), .long u.2.1.2, .int (iZ u.1.2.2.2.2.2.2.1), .int (iZ u.1.2.2.2.2.2.2.2.1)])), (tx, .inl (k 0, 900, .inl bf)), (kw, .inl (k 2, 25, .inr (.inl kwf))), (hy, .inr (9, [.ref yw, .ref y1, .ref y2, .ref y3, .ref yp, .int (iZ th), .int (iZ u.1.2.2.2.2.2.2.2.2.2.1), .int (iZ u.1.2.2.2.2.2.2.2.2.2.2)])), (yw, .inl (k 1, 60, .inl u.2.2.1.2.1)), (y1, .inl (k 1, 60, .inl u.2.2.1.2.2.1)), (y2, .inl (k 1, 60, .inl u.2.2.1.2.2.2.1)), (y3, .inl (k 1, 60, .inl u.2.2.1.2.2.2.2)), (yp, .inl (k 1, 60, .inl ypf)), (hs, .inr (5, [.ref hN, .ref hf, .ref hg, .int (iZ n), .int (iZ ni), .int (iZ lw), .int (iZ we)])), (hN, .inl (k 2, 6, .inr (.inl nf)))]) := by
  refine MW (by decide) (Nat.le_of_ble_eq_true rfl) (fun p e s m below meth c ls A hx hb hml hr hlocks hin hts hown hKK hP hD hS hA hl => ?_)
  have hK := hKK.1
  have hl : lv_has ls 4 [(0, .ref hv)] := hl
  obtain ⟨⟨ar_1, br_1⟩, cr_1, dr_1, er_1, fr_1, gr_1, hr_1⟩ := id hrx
  have hkeep := @k_isStep
  clear hkeep
  obtain ⟨⟨v1, v2, v3, v4, v0⟩, v5, v6, v7, v8, v9⟩ := id hV
  obtain ⟨jW, jA, jB, jC, jP, jO⟩ := id hYs
  refine lv_aload_n hx hb dX10_readStep_0 rfl (lv_at hl 0 rfl) ?_
  refine va_get (D := D) (ci := 10) (v := .ref hr1) (C := RX10) (T := TX10) (N := 5) hx hb hts iX10 hown hK hP 0 rfl rfl 0 (bl rfl) (hts _ qf_X10_15) (fun _ h => h) rfl dX10_readStep_1 ?_
  refine va_get (D := D) (ci := 4) (v := .int (iZ ke)) (C := RX4) (T := TX4) (N := 12) hx hb hts iX4 hown hK hP 2 rfl rfl 8 (bl rfl) (hts _ qf_X10_42) (fun _ h => h) rfl dX10_readStep_4 ?_
  refine lv_istore_n (lv' := [(1, .int (iZ ke)), (0, .ref hv)]) hx hb dX10_readStep_7 rfl hl (bl rfl) rfl (fun ls hl => ?_)
  refine lv_iload_n hx hb dX10_readStep_8 rfl (lv_at hl 0 rfl) ?_
  refine lv_bipush (v := iZ 19) hx hb dX10_readStep_9 bip_19 ?_
  refine lv_icmp_eq (tgt := 20) hx hb dX10_readStep_11 rfl (fun c_2 => ?_) (fun c_2 => ?_)
  ·
    have c_2 := (zeq (x := iZ ke) (y := iZ 19) rfl rfl ⟨by omega, by omega⟩ wn_19).mp c_2
    refine lv_iconst (v := iZ 1) hx hb dX10_readStep_20 rfl ?_
    refine lv_goto (tgt := 25) hx hb dX10_readStep_21 rfl ?_
    refine lv_istore_n (lv' := [(2, .int (iZ 1)), (1, .int (iZ ke)), (0, .ref hv)]) hx hb dX10_readStep_25 rfl hl (bl rfl) rfl (fun ls hl => ?_)
    refine lv_iload_n hx hb dX10_readStep_26 rfl (lv_at hl 1 rfl) ?_
    refine CPS (As := [.int (iZ ke)]) (rest := []) hx hb hml hown hts hKK (hP.sub (ws' := []) [] rfl) (x_isStep l D k ke ⟨by omega, by omega⟩) ci_X10_isStep qm_X10_72 ⟨Nat.le_of_ble_eq_true rfl, Nat.le_of_ble_eq_true rfl⟩ ⟨Nat.le_of_ble_eq_true rfl, Nat.le_of_ble_eq_true rfl⟩ rfl hl.1 rfl (Nat.le_of_ble_eq_true rfl) dX10_readStep_27 (fun z_3 hz_3 => ?_)
    rcases hz_3 with ⟨qz_3, hz_3⟩ | ⟨qz_3, hz_3⟩
    ·
      subst qz_3
      refine lv_if_ne (tgt := 42) hx hb dX10_readStep_30 rfl (fun _ => ?_) (fun c => absurd c (by decide))
      refine lv_aload_n hx hb dX10_readStep_42 rfl (lv_at hl 2 rfl) ?_
      refine va_get (D := D) (ci := 10) (v := .ref hy) (C := RX10) (T := TX10) (N := 5) hx hb hts iX10 hown hK hP 0 rfl rfl 3 (bl rfl) (hts _ qf_X10_19) (fun _ h => h) rfl dX10_readStep_43 ?_
      refine va_get (D := D) (ci := 9) (v := .int (iZ ys)) (C := RX9) (T := TX9) (N := 8) hx hb hts iX9 hown hK hP 5 rfl rfl 6 (bl rfl) (hts _ qf_X10_75) (fun _ h => h) rfl dX10_readStep_46 ?_
      refine lv_bipush (v := iZ 30) hx hb dX10_readStep_49 bip_30 ?_
      refine lv_icmp_lt (tgt := 64) hx hb dX10_readStep_51 rfl (fun c_5 => ?_) (fun c_5 => ?_)
      ·
        have c_5 := (zlt (x := iZ ys) (y := iZ 30) rfl rfl ⟨by omega, by omega⟩ wn_30).mp c_5
        refine lv_iload_n hx hb dX10_readStep_64 rfl (lv_at hl 0 rfl) ?_
        refine lv_if_eq (tgt := 86) hx hb dX10_readStep_65 rfl (fun c => absurd c (by decide)) (fun _ => ?_)
        refine lv_aload_n hx hb dX10_readStep_68 rfl (lv_at hl 2 rfl) ?_
        refine va_get (D := D) (ci := 10) (v := .int (iZ de)) (C := RX10) (T := TX10) (N := 5) hx hb hts iX10 hown hK hP 0 rfl rfl 2 (bl rfl) (hts _ qf_X10_32) (fun _ h => h) rfl dX10_readStep_69 ?_
        refine lv_iconst (v := iZ 3) hx hb dX10_readStep_72 rfl ?_
        refine lv_icmp_lt (tgt := 86) hx hb dX10_readStep_73 rfl (fun c_7 => ?_) (fun c_7 => ?_)
        ·
          have c_7 := (zlt (x := iZ de) (y := iZ 3) rfl rfl ⟨by omega, by omega⟩ wn_3).mp c_7
          refine lv_aload_n hx hb dX10_readStep_86 rfl (lv_at hl 2 rfl) ?_
          refine va_get (D := D) (ci := 10) (v := .ref hy) (C := RX10) (T := TX10) (N := 5) hx hb hts iX10 hown hK hP 0 rfl rfl 3 (bl rfl) (hts _ qf_X10_19) (fun _ h => h) rfl dX10_readStep_87 ?_
          refine lv_iload_n hx hb dX10_readStep_90 rfl (lv_at hl 1 rfl) ?_
          refine CWV (As := [.int (iZ ke)]) (rest := []) (wc := _) (wr := [(hv, .inr (10, [.ref hr1, .ref oo, .int (iZ de), .ref hy, .ref hs])), (oo, .inl (k 1, 3, .inl of0)), (hr1, .inr (4, [.ref tx, .ref kw, .int (iZ tp), .int (iZ ln), .int (iZ pl), .int (iZ en), .int (iZ ki), .int (iZ va), .int (iZ ke), .long nm, .int (iZ fk), .int (iZ fp)])), (tx, .inl (k 0, 900, .inl bf)), (kw, .inl (k 2, 25, .inr (.inl kwf))), (y1, .inl (k 1, 60, .inl y1f)), (y2, .inl (k 1, 60, .inl y2f)), (y3, .inl (k 1, 60, .inl y3f)), (yp, .inl (k 1, 60, .inl ypf)), (hs, .inr (5, [.ref hN, .ref hf, .ref hg, .int (iZ n), .int (iZ ni), .int (iZ lw), .int (iZ we)])), (hN, .inl (k 2, 6, .inr (.inl nf)))]) hx hb hml hown hts hKK hP hD hS hA (k_addRow l D k hy yw y1 y2 y3 yp ywf th ys yr ke ⟨by omega, by omega⟩ ) ci_X9_addRow qm_X10_62 ⟨Nat.le_of_ble_eq_true rfl, Nat.le_of_ble_eq_true rfl⟩ ⟨Nat.le_of_ble_eq_true rfl, Nat.le_of_ble_eq_true rfl⟩ [5, 6] [0, 1, 2, 3, 4, 7, 8, 9, 10, 11, 12] rfl rfl rfl rfl rfl (dj rfl) 0 rfl rfl rfl hl.1 rfl (Nat.le_of_ble_eq_true rfl) dX10_readStep_91 (fun u_8 H locs hφ hP hD hS => ?_)
          obtain ⟨f_9, hf_9⟩ : ∃ gg9, gg9 = upd ywf (iZ yr).toNatClampNeg (iZ ke) := ⟨_, rfl⟩
          rw [← hf_9] at hP hD
          refine W.eq (g2 := F0 m 94 ls [.int (iZ yr)]) rfl ?_
          refine lv_istore_n (lv' := [(3, .int (iZ yr)), (2, .int (iZ 1)), (1, .int (iZ ke)), (0, .ref hv)]) hx hb dX10_readStep_94 rfl hl (bl rfl) rfl (fun ls hl => ?_)
          refine lv_aload_n hx hb dX10_readStep_95 rfl (lv_at hl 3 rfl) ?_
          refine va_get (D := D) (ci := 10) (v := .ref hy) (C := RX10) (T := TX10) (N := 5) hx hb hts iX10 hown hK hP 0 rfl rfl 3 (bl rfl) (hts _ qf_X10_19) (fun _ h => h) rfl dX10_readStep_96 ?_
          refine lv_dup hx hb dX10_readStep_99 rfl ?_
          refine va_get (D := D) (ci := 9) (v := .int (iZ ys)) (C := RX9) (T := TX9) (N := 8) hx hb hts iX9 hown hK hP 11 rfl rfl 6 (bl rfl) (hts _ qf_X10_75) (fun _ h => h) rfl dX10_readStep_100 ?_
          refine lv_iconst (v := iZ 1) hx hb dX10_readStep_103 rfl ?_
          refine lv_iadd hx hb dX10_readStep_104 ?_
          refine lv_topi (fun x_10 ex_10 => ?_)
          obtain rfl : x_10 = iZ (ys + 1) := ex_10.trans (iZ_add ys 1)
          refine va_put (D := D) (ci := 9) (v := .int (iZ (ys + 1))) (ty := .int) (C := RX9) (T := TX9) (N := 8) hx hb hts iX9 tyX9 tyX9_ok nmX9 hown hK hP hD hS 11 rfl rfl 6 (bl rfl) (hts _ qf_X10_75) (fun _ h => h) rfl (by decide +kernel) rfl rfl (Nat.le_of_ble_eq_true rfl) dX10_readStep_105 (fun H locs hP hD hS => ?_)
          refine lv_aload_n hx hb dX10_readStep_108 rfl (lv_at hl 3 rfl) ?_
          refine va_get (D := D) (ci := 10) (v := .ref hr1) (C := RX10) (T := TX10) (N := 5) hx hb hts iX10 hown hK hP 0 rfl rfl 0 (bl rfl) (hts _ qf_X10_15) (fun _ h => h) rfl dX10_readStep_109 ?_
          refine CWV (As := []) (rest := []) (wc := _) (wr := [(hv, .inr (10, [.ref hr1, .ref oo, .int (iZ de), .ref hy, .ref hs])), (oo, .inl (k 1, 3, .inl of0)), (y1, .inl (k 1, 60, .inl y1f)), (y2, .inl (k 1, 60, .inl y2f)), (y3, .inl (k 1, 60, .inl y3f)), (yp, .inl (k 1, 60, .inl ypf)), (hs, .inr (5, [.ref hN, .ref hf, .ref hg, .int (iZ n), .int (iZ ni), .int (iZ lw), .int (iZ we)])), (hN, .inl (k 2, 6, .inr (.inl nf))), (hy, .inr (9, [.ref yw, .ref y1, .ref y2, .ref y3, .ref yp, .int (iZ th), .int (iZ (ys + 1)), .int (iZ (yr + 1))])), (yw, .inl (k 1, 60, .inl f_9))]) hx hb hml hown hts hKK hP hD hS hA (x_next l D k hr1 tx kw tp ln pl en ki va ke fk fp nm bf kwf ⟨⟨by omega, by omega⟩, ⟨by omega, by omega⟩, by omega, by omega⟩ hbf hkw) ci_X4_next qm_X10_59 ⟨Nat.le_of_ble_eq_true rfl, Nat.le_of_ble_eq_true rfl⟩ ⟨Nat.le_of_ble_eq_true rfl, Nat.le_of_ble_eq_true rfl⟩ [2, 3, 4] [0, 1, 5, 6, 7, 8, 9, 10, 11, 12] rfl rfl rfl rfl rfl (dj rfl) 0 rfl rfl rfl hl.1 rfl (Nat.le_of_ble_eq_true rfl) dX10_readStep_112 (fun u_11 H locs hφ hP hD hS => ?_)
          obtain ⟨p_12, p_13⟩ : (RDX (tX bf ln) en u_11.1.2.1 u_11.1.2.2.1 u_11.1.2.2.2.1 u_11.1.2.2.2.2.1 u_11.1.2.2.2.2.2 u_11.2.1.2) ∧ ((0 ≤ tp ∧ tp ≤ 900) ∧ (0 ≤ ln ∧ ln ≤ 900) ∧ (0 ≤ u_11.1.2.1 ∧ u_11.1.2.1 ≤ u_11.1.2.2.1) ∧ (u_11.1.2.2.1 ≤ ln) ∧ (0 ≤ u_11.1.2.2.2.1 ∧ u_11.1.2.2.2.1 ≤ 4) ∧ (-2147483648 ≤ u_11.1.2.2.2.2.1 ∧ u_11.1.2.2.2.2.1 < 2147483648) ∧ (-1 ≤ u_11.1.2.2.2.2.2 ∧ u_11.1.2.2.2.2.2 ≤ 24)) := hφ
          have rx_14 := RDX.nx hrx p_12
          obtain ⟨⟨ar_15, br_15⟩, cr_15, dr_15, er_15, fr_15, gr_15, hr_15⟩ := id rx_14
          obtain ⟨t1u_16, t2u_16, t3u_16, t4u_16, t5u_16, t6u_16, t7u_16⟩ := id p_13
          refine W.eq (g2 := F0 m 115 ls []) rfl ?_
          refine lv_aload_n hx hb dX10_readStep_115 rfl (lv_at hl 3 rfl) ?_
          refine lv_iload_n hx hb dX10_readStep_116 rfl (lv_at hl 2 rfl) ?_
          refine lv_iload_n hx hb dX10_readStep_117 rfl (lv_at hl 0 rfl) ?_
          refine CWV (As := [.int (iZ ke), .int (iZ yr)]) (rest := []) (wc := _) (wr := []) hx hb hml hown hts hKK hP hD hS hA (x_readRest l D k hv oo hr1 tx kw hs hN hf hg de of0 tp ln u_11.1.2.1 u_11.1.2.2.1 u_11.1.2.2.2.1 u_11.1.2.2.2.2.1 u_11.1.2.2.2.2.2 fk fp u_11.2.1.2 bf kwf hy yw y1 y2 y3 yp th (ys + 1) (yr + 1) f_9 y1f y2f y3f ypf n ni lw we nf (xEn (tX bf ln) cu) ke yr N (by first | with_reducible assumption | exact ⟨⟨by omega, by omega⟩, ⟨by omega, by omega⟩, ⟨by omega, by omega⟩, by omega, ⟨by omega, by omega⟩, ⟨by omega, by omega⟩, by omega, by omega⟩) hbf hkw rx_14 ⟨by omega, by omega⟩ ⟨by omega, by omega⟩ ⟨by omega, by omega⟩ hns) ci_X10_readRest qm_X10_78 ⟨Nat.le_of_ble_eq_true rfl, Nat.le_of_ble_eq_true rfl⟩ ⟨Nat.le_of_ble_eq_true rfl, Nat.le_of_ble_eq_true rfl⟩ [0, 1, 10, 11, 12, 8, 9, 2, 3, 4, 5, 6, 7] [] rfl rfl rfl rfl rfl (dj rfl) 0 rfl rfl rfl hl.1 rfl (Nat.le_of_ble_eq_true rfl) dX10_readStep_118 (fun u_17 H locs hφ hP hD hS => ?_)
          obtain ⟨p_18, p_19⟩ : ((0 ≤ tp ∧ tp ≤ 900) ∧ (0 ≤ ln ∧ ln ≤ 900) ∧ (0 ≤ u_17.1.2.1 ∧ u_17.1.2.1 ≤ u_17.1.2.2.1) ∧ (u_17.1.2.2.1 ≤ ln) ∧ (0 ≤ u_17.1.2.2.2.1 ∧ u_17.1.2.2.2.1 ≤ 4) ∧ (-2147483648 ≤ u_17.1.2.2.2.2.1 ∧ u_17.1.2.2.2.2.1 < 2147483648) ∧ (-1 ≤ u_17.1.2.2.2.2.2.1 ∧ u_17.1.2.2.2.2.2.1 ≤ 24)) ∧ (((u_17.1.1 : Int) = 1 ∧ ∃ (q9 a9 b9 c9 : Int), xRe (tX bf ln) N n ke (xEn (tX bf ln) cu) = .inr (q9, a9, b9, c9) ∧ (xEn (tX bf ln) cu) ≤ q9 ∧ RDX (tX bf ln) q9 u_17.1.2.1 u_17.1.2.2.1 u_17.1.2.2.2.1 u_17.1.2.2.2.2.1 u_17.1.2.2.2.2.2.1 u_17.2.1.2 ∧ (YF u_17.2.2.1.1 y1f yr a9 ∧ YF u_17.2.2.1.2.1 y2f yr b9 ∧ YF u_17.2.2.1.2.2 y3f yr c9) ∧ u_17.1.2.2.2.2.2.2.1 = fk ∧ u_17.1.2.2.2.2.2.2.2 = fp) ∨ ((u_17.1.1 : Int) = 0 ∧ xRe (tX bf ln) N n ke (xEn (tX bf ln) cu) = .inl (u_17.1.2.2.2.2.2.2.1, u_17.1.2.2.2.2.2.2.2))) := hφ
          refine W.eq (g2 := F0 m 121 ls [.int (iZ u_17.1.1)]) rfl ?_
          rcases p_19 with ⟨qt_20, cut_20, at_20, bt_20, ct_20, st_20, lt_20, xt_20, ft_20, ut_20, vt_20⟩ | ⟨qt_20, st_20⟩
          ·
            rw [qt_20]
            obtain ⟨⟨ar_21, br_21⟩, cr_21, dr_21, er_21, fr_21, gr_21, hr_21⟩ := id xt_20
            refine lv_if_eq (tgt := 136) hx hb dX10_readStep_121 rfl (fun c => absurd c (by decide)) (fun _ => ?_)
            refine lv_aload_n hx hb dX10_readStep_124 rfl (lv_at hl 3 rfl) ?_
            refine va_get (D := D) (ci := 10) (v := .ref hr1) (C := RX10) (T := TX10) (N := 5) hx hb hts iX10 hown hK hP 0 rfl rfl 0 (bl rfl) (hts _ qf_X10_15) (fun _ h => h) rfl dX10_readStep_125 ?_
            refine lv_bipush (v := iZ 59) hx hb dX10_readStep_128 bip_59 ?_
            refine CWV (As := [.int (iZ 59)]) (rest := []) (wc := _) (wr := [(hv, .inr (10, [.ref hr1, .ref oo, .int (iZ de), .ref hy, .ref hs])), (oo, .inl (k 1, 3, .inl of0)), (hy, .inr (9, [.ref yw, .ref y1, .ref y2, .ref y3, .ref yp, .int (iZ th), .int (iZ (ys + 1)), .int (iZ (yr + 1))])), (yw, .inl (k 1, 60, .inl f_9)), (y1, .inl (k 1, 60, .inl u_17.2.2.1.1)), (y2, .inl (k 1, 60, .inl u_17.2.2.1.2.1)), (y3, .inl (k 1, 60, .inl u_17.2.2.1.2.2)), (yp, .inl (k 1, 60, .inl ypf)), (hs, .inr (5, [.ref hN, .ref hf, .ref hg, .int (iZ n), .int (iZ ni), .int (iZ lw), .int (iZ we)])), (hN, .inl (k 2, 6, .inr (.inl nf)))]) hx hb hml hown hts hKK hP hD hS hA (x_takeSign l D k hr1 tx kw tp ln u_17.1.2.1 u_17.1.2.2.1 u_17.1.2.2.2.1 u_17.1.2.2.2.2.1 u_17.1.2.2.2.2.2.1 u_17.1.2.2.2.2.2.2.1 u_17.1.2.2.2.2.2.2.2 u_17.2.1.2 bf kwf cut_20 59 (by first | with_reducible assumption | exact ⟨⟨by omega, by omega⟩, ⟨by omega, by omega⟩, ⟨by omega, by omega⟩, by omega, ⟨by omega, by omega⟩, ⟨by omega, by omega⟩, by omega, by omega⟩) hbf hkw xt_20 ⟨by omega, by omega⟩) ci_X4_takeSign qm_X10_69 ⟨Nat.le_of_ble_eq_true rfl, Nat.le_of_ble_eq_true rfl⟩ ⟨Nat.le_of_ble_eq_true rfl, Nat.le_of_ble_eq_true rfl⟩ [2, 3, 4] [0, 1, 5, 6, 7, 8, 9, 10, 11, 12] rfl rfl rfl rfl rfl (dj rfl) 0 rfl rfl rfl hl.1 rfl (Nat.le_of_ble_eq_true rfl) dX10_readStep_130 (fun u_23 H locs hφ hP hD hS => ?_)
            obtain ⟨p_24, p_25⟩ : ((0 ≤ tp ∧ tp ≤ 900) ∧ (0 ≤ ln ∧ ln ≤ 900) ∧ (0 ≤ u_23.1.2.1 ∧ u_23.1.2.1 ≤ u_23.1.2.2.1) ∧ (u_23.1.2.2.1 ≤ ln) ∧ (0 ≤ u_23.1.2.2.2.1 ∧ u_23.1.2.2.2.1 ≤ 4) ∧ (-2147483648 ≤ u_23.1.2.2.2.2.1 ∧ u_23.1.2.2.2.2.1 < 2147483648) ∧ (-1 ≤ u_23.1.2.2.2.2.2.1 ∧ u_23.1.2.2.2.2.2.1 ≤ 24)) ∧ (((u_23.1.1 : Int) = 1 ∧ ∃ q9 : Int, xTs (tX bf ln) 59 cut_20 = .inr q9 ∧ cut_20 < q9 ∧ RDX (tX bf ln) q9 u_23.1.2.1 u_23.1.2.2.1 u_23.1.2.2.2.1 u_23.1.2.2.2.2.1 u_23.1.2.2.2.2.2.1 u_23.2.1.2 ∧ u_23.1.2.2.2.2.2.2.1 = u_17.1.2.2.2.2.2.2.1 ∧ u_23.1.2.2.2.2.2.2.2 = u_17.1.2.2.2.2.2.2.2) ∨ ((u_23.1.1 : Int) = 0 ∧ xTs (tX bf ln) 59 cut_20 = .inl (u_23.1.2.2.2.2.2.2.1, u_23.1.2.2.2.2.2.2.2))) := hφ
            refine W.eq (g2 := F0 m 133 ls [.int (iZ u_23.1.1)]) rfl ?_
            rcases p_25 with ⟨qt_26, cut_26, st_26, lt_26, xt_26, ut_26, vt_26⟩ | ⟨qt_26, st_26⟩
            ·
              rw [qt_26]
              obtain ⟨⟨ar_27, br_27⟩, cr_27, dr_27, er_27, fr_27, gr_27, hr_27⟩ := id xt_26
              refine lv_if_ne (tgt := 138) hx hb dX10_readStep_133 rfl (fun _ => ?_) (fun c => absurd c (by decide))
              refine lv_iload_n hx hb dX10_readStep_138 rfl (lv_at hl 1 rfl) ?_
              refine lv_if_eq (tgt := 162) hx hb dX10_readStep_139 rfl (fun c => absurd c (by decide)) (fun _ => ?_)
              refine lv_aload_n hx hb dX10_readStep_142 rfl (lv_at hl 3 rfl) ?_
              refine va_get (D := D) (ci := 10) (v := .ref oo) (C := RX10) (T := TX10) (N := 5) hx hb hts iX10 hown hK hP 0 rfl rfl 1 (bl rfl) (hts _ qf_X10_9) (fun _ h => h) rfl dX10_readStep_143 ?_
              refine lv_aload_n hx hb dX10_readStep_146 rfl (lv_at hl 3 rfl) ?_
              refine va_get (D := D) (ci := 10) (v := .int (iZ de)) (C := RX10) (T := TX10) (N := 5) hx hb hts iX10 hown hK hP 0 rfl rfl 2 (bl rfl) (hts _ qf_X10_32) (fun _ h => h) rfl dX10_readStep_147 ?_
              refine lv_iload_n hx hb dX10_readStep_150 rfl (lv_at hl 0 rfl) ?_
              refine va_iast hx hb hK hP hD hS 1 1 rfl rfl (zin (e := de) (n := 3) ⟨by omega, by omega⟩ (bl rfl)) dX10_readStep_151 (fun H locs hP hD hS => ?_)
              obtain ⟨f_30, hf_30⟩ : ∃ gg9, gg9 = upd of0 (iZ de).toNatClampNeg (iZ yr) := ⟨_, rfl⟩
              rw [← hf_30] at hP hD
              refine lv_aload_n hx hb dX10_readStep_152 rfl (lv_at hl 3 rfl) ?_
              refine lv_dup hx hb dX10_readStep_153 rfl ?_
              refine va_get (D := D) (ci := 10) (v := .int (iZ de)) (C := RX10) (T := TX10) (N := 5) hx hb hts iX10 hown hK hP 0 rfl rfl 2 (bl rfl) (hts _ qf_X10_32) (fun _ h => h) rfl dX10_readStep_154 ?_
              refine lv_iconst (v := iZ 1) hx hb dX10_readStep_157 rfl ?_
              refine lv_iadd hx hb dX10_readStep_158 ?_
              refine lv_topi (fun x_31 ex_31 => ?_)
              obtain rfl : x_31 = iZ (de + 1) := ex_31.trans (iZ_add de 1)
              refine va_put (D := D) (ci := 10) (v := .int (iZ (de + 1))) (ty := .int) (C := RX10) (T := TX10) (N := 5) hx hb hts iX10 tyX10 tyX10_ok nmX10 hown hK hP hD hS 0 rfl rfl 2 (bl rfl) (hts _ qf_X10_32) (fun _ h => h) rfl (by decide +kernel) rfl rfl (Nat.le_of_ble_eq_true rfl) dX10_readStep_159 (fun H locs hP hD hS => ?_)
              refine lv_iconst (v := iZ 1) hx hb dX10_readStep_162 rfl ?_
              have hkk : xKw (tX bf ln) cu = ke := (by omega)
              have hnr := xRe_r (by omega) st_20
              have jW1 := yRw_u jW (v := ke) hf_9 ⟨by omega, by omega⟩ ⟨by omega, by omega⟩
              rw [← hkk] at jW1
              exact EWz hx hb hr hlocks hS ((1, u_23.1.2.1, u_23.1.2.2.1, u_23.1.2.2.2.1, u_23.1.2.2.2.2.1, u_23.1.2.2.2.2.2.1, u_23.1.2.2.2.2.2.2.1, u_23.1.2.2.2.2.2.2.2, (de + 1), (ys + 1), (yr + 1)), (0, u_23.2.1.2), (f_30, f_9, u_17.2.2.1.1, u_17.2.2.1.2.1, u_17.2.2.1.2.2), ()) rfl rfl ⟨(show (0 ≤ tp ∧ tp ≤ 900) ∧ (0 ≤ ln ∧ ln ≤ 900) ∧ (0 ≤ u_23.1.2.1 ∧ u_23.1.2.1 ≤ u_23.1.2.2.1) ∧ (u_23.1.2.2.1 ≤ ln) ∧ (0 ≤ u_23.1.2.2.2.1 ∧ u_23.1.2.2.2.1 ≤ 4) ∧ (-2147483648 ≤ u_23.1.2.2.2.2.1 ∧ u_23.1.2.2.2.2.1 < 2147483648) ∧ (-1 ≤ u_23.1.2.2.2.2.2.1 ∧ u_23.1.2.2.2.2.2.1 ≤ 24) from (by first | with_reducible assumption | exact ⟨⟨by omega, by omega⟩, ⟨by omega, by omega⟩, ⟨by omega, by omega⟩, by omega, ⟨by omega, by omega⟩, ⟨by omega, by omega⟩, by omega, by omega⟩)), (show ((1 : Int) = 1 ∧ ∃ (q9 : Int) (W9 A9 B9 C9 P9 O9 : Int → Int), xSt (tX bf ln) N n cu (yr, ys, de, W0, A0, B0, C0, P0, O0) = .inr (q9, ((yr + 1), (ys + 1), (de + 1), W9, A9, B9, C9, P9, O9)) ∧ cu < q9 ∧ RDX (tX bf ln) q9 u_23.1.2.1 u_23.1.2.2.1 u_23.1.2.2.2.1 u_23.1.2.2.2.2.1 u_23.1.2.2.2.2.2.1 u_23.2.1.2 ∧ YSY (yr + 1) (de + 1) f_9 u_17.2.2.1.1 u_17.2.2.1.2.1 u_17.2.2.1.2.2 ypf f_30 W9 A9 B9 C9 P9 O9 ∧ u_23.1.2.2.2.2.2.2.1 = fk ∧ u_23.1.2.2.2.2.2.2.2 = fp) ∨ ((1 : Int) = 0 ∧ xSt (tX bf ln) N n cu (yr, ys, de, W0, A0, B0, C0, P0, O0) = .inl (u_23.1.2.2.2.2.2.2.1, u_23.1.2.2.2.2.2.2.2)) from (Or.inl ⟨rfl, _, _, _, _, _, _, _, xSt_o (show xKw (tX bf ln) cu = 19 ∨ xKw (tX bf ln) cu = 22 from (by omega)) (show xKw (tX bf ln) cu = 15 ∨ xKw (tX bf ln) cu = 16 ∨ xKw (tX bf ln) cu = 17 ∨ xKw (tX bf ln) cu = 18 ∨ xKw (tX bf ln) cu = 19 ∨ xKw (tX bf ln) cu = 22 ∨ xKw (tX bf ln) cu = 24 from (by have i9 := hz_3.2 (); omega)) (by omega) (by omega) (show xRe (tX bf ln) N n (xKw (tX bf ln) cu) (xEn (tX bf ln) cu) = _ from by rw [hkk]; exact st_20) st_26, by omega, xt_26, ⟨jW1, yRw_f jA ft_20.1 ⟨by omega, by omega⟩ ⟨by omega, by omega⟩, yRw_f jB ft_20.2.1 ⟨by omega, by omega⟩ ⟨by omega, by omega⟩, yRw_f jC ft_20.2.2 ⟨by omega, by omega⟩ ⟨by omega, by omega⟩, yRw_g jP (v6 yr (Int.le_refl _)).2.2.2.2, yRw_u jO hf_30 ⟨by omega, by omega⟩ ⟨by omega, by omega⟩⟩, by omega, by omega⟩))⟩ (hP.sub [0, 1, 10, 11, 12, 2, 3, 4, 5, 6, 7, 8, 9] rfl) (hD.sub [0, 1, 10, 11, 12, 2, 3, 4, 5, 6, 7, 8, 9] rfl rfl) dX10_readStep_163
            ·
              rw [qt_26]
              refine lv_if_ne (tgt := 138) hx hb dX10_readStep_133 rfl (fun c => absurd (by decide) c) (fun _ => ?_)
              refine lv_iconst (v := iZ 0) hx hb dX10_readStep_136 rfl ?_
              have hkk : xKw (tX bf ln) cu = ke := (by omega)
              exact EWz hx hb hr hlocks hS ((0, u_23.1.2.1, u_23.1.2.2.1, u_23.1.2.2.2.1, u_23.1.2.2.2.2.1, u_23.1.2.2.2.2.2.1, u_23.1.2.2.2.2.2.2.1, u_23.1.2.2.2.2.2.2.2, de, (ys + 1), (yr + 1)), (0, u_23.2.1.2), (of0, f_9, u_17.2.2.1.1, u_17.2.2.1.2.1, u_17.2.2.1.2.2), ()) rfl rfl ⟨(show (0 ≤ tp ∧ tp ≤ 900) ∧ (0 ≤ ln ∧ ln ≤ 900) ∧ (0 ≤ u_23.1.2.1 ∧ u_23.1.2.1 ≤ u_23.1.2.2.1) ∧ (u_23.1.2.2.1 ≤ ln) ∧ (0 ≤ u_23.1.2.2.2.1 ∧ u_23.1.2.2.2.1 ≤ 4) ∧ (-2147483648 ≤ u_23.1.2.2.2.2.1 ∧ u_23.1.2.2.2.2.1 < 2147483648) ∧ (-1 ≤ u_23.1.2.2.2.2.2.1 ∧ u_23.1.2.2.2.2.2.1 ≤ 24) from (by first | with_reducible assumption | exact ⟨⟨by omega, by omega⟩, ⟨by omega, by omega⟩, ⟨by omega, by omega⟩, by omega, ⟨by omega, by omega⟩, ⟨by omega, by omega⟩, by omega, by omega⟩)), (show ((0 : Int) = 1 ∧ ∃ (q9 : Int) (W9 A9 B9 C9 P9 O9 : Int → Int), xSt (tX bf ln) N n cu (yr, ys, de, W0, A0, B0, C0, P0, O0) = .inr (q9, ((yr + 1), (ys + 1), de, W9, A9, B9, C9, P9, O9)) ∧ cu < q9 ∧ RDX (tX bf ln) q9 u_23.1.2.1 u_23.1.2.2.1 u_23.1.2.2.2.1 u_23.1.2.2.2.2.1 u_23.1.2.2.2.2.2.1 u_23.2.1.2 ∧ YSY (yr + 1) de f_9 u_17.2.2.1.1 u_17.2.2.1.2.1 u_17.2.2.1.2.2 ypf of0 W9 A9 B9 C9 P9 O9 ∧ u_23.1.2.2.2.2.2.2.1 = fk ∧ u_23.1.2.2.2.2.2.2.2 = fp) ∨ ((0 : Int) = 0 ∧ xSt (tX bf ln) N n cu (yr, ys, de, W0, A0, B0, C0, P0, O0) = .inl (u_23.1.2.2.2.2.2.2.1, u_23.1.2.2.2.2.2.2.2)) from (Or.inr ⟨rfl, xSt_b (show xKw (tX bf ln) cu = 15 ∨ xKw (tX bf ln) cu = 16 ∨ xKw (tX bf ln) cu = 17 ∨ xKw (tX bf ln) cu = 18 ∨ xKw (tX bf ln) cu = 19 ∨ xKw (tX bf ln) cu = 22 ∨ xKw (tX bf ln) cu = 24 from (by have i9 := hz_3.2 (); omega)) (by omega) (show ¬ ((xKw (tX bf ln) cu = 19 ∨ xKw (tX bf ln) cu = 22) ∧ 3 ≤ de) from (by omega)) (show xRe (tX bf ln) N n (xKw (tX bf ln) cu) (xEn (tX bf ln) cu) = _ from by rw [hkk]; exact st_20) st_26⟩))⟩ (hP.sub [0, 1, 10, 11, 12, 2, 3, 4, 5, 6, 7, 8, 9] rfl) (hD.sub [0, 1, 10, 11, 12, 2, 3, 4, 5, 6, 7, 8, 9] rfl rfl) dX10_readStep_137
          ·
            rw [qt_20]
            refine lv_if_eq (tgt := 136) hx hb dX10_readStep_121 rfl (fun _ => ?_) (fun c => absurd (by decide) c)
            refine lv_iconst (v := iZ 0) hx hb dX10_readStep_136 rfl ?_
            have hkk : xKw (tX bf ln) cu = ke := (by omega)
            exact EWz hx hb hr hlocks hS ((0, u_17.1.2.1, u_17.1.2.2.1, u_17.1.2.2.2.1, u_17.1.2.2.2.2.1, u_17.1.2.2.2.2.2.1, u_17.1.2.2.2.2.2.2.1, u_17.1.2.2.2.2.2.2.2, de, (ys + 1), (yr + 1)), (0, u_17.2.1.2), (of0, f_9, u_17.2.2.1.1, u_17.2.2.1.2.1, u_17.2.2.1.2.2), ()) rfl rfl ⟨(show (0 ≤ tp ∧ tp ≤ 900) ∧ (0 ≤ ln ∧ ln ≤ 900) ∧ (0 ≤ u_17.1.2.1 ∧ u_17.1.2.1 ≤ u_17.1.2.2.1) ∧ (u_17.1.2.2.1 ≤ ln) ∧ (0 ≤ u_17.1.2.2.2.1 ∧ u_17.1.2.2.2.1 ≤ 4) ∧ (-2147483648 ≤ u_17.1.2.2.2.2.1 ∧ u_17.1.2.2.2.2.1 < 2147483648) ∧ (-1 ≤ u_17.1.2.2.2.2.2.1 ∧ u_17.1.2.2.2.2.2.1 ≤ 24) from (by first | with_reducible assumption | exact ⟨⟨by omega, by omega⟩, ⟨by omega, by omega⟩, ⟨by omega, by omega⟩, by omega, ⟨by omega, by omega⟩, ⟨by omega, by omega⟩, by omega, by omega⟩)), (show ((0 : Int) = 1 ∧ ∃ (q9 : Int) (W9 A9 B9 C9 P9 O9 : Int → Int), xSt (tX bf ln) N n cu (yr, ys, de, W0, A0, B0, C0, P0, O0) = .inr (q9, ((yr + 1), (ys + 1), de, W9, A9, B9, C9, P9, O9)) ∧ cu < q9 ∧ RDX (tX bf ln) q9 u_17.1.2.1 u_17.1.2.2.1 u_17.1.2.2.2.1 u_17.1.2.2.2.2.1 u_17.1.2.2.2.2.2.1 u_17.2.1.2 ∧ YSY (yr + 1) de f_9 u_17.2.2.1.1 u_17.2.2.1.2.1 u_17.2.2.1.2.2 ypf of0 W9 A9 B9 C9 P9 O9 ∧ u_17.1.2.2.2.2.2.2.1 = fk ∧ u_17.1.2.2.2.2.2.2.2 = fp) ∨ ((0 : Int) = 0 ∧ xSt (tX bf ln) N n cu (yr, ys, de, W0, A0, B0, C0, P0, O0) = .inl (u_17.1.2.2.2.2.2.2.1, u_17.1.2.2.2.2.2.2.2)) from (Or.inr ⟨rfl, xSt_a (show xKw (tX bf ln) cu = 15 ∨ xKw (tX bf ln) cu = 16 ∨ xKw (tX bf ln) cu = 17 ∨ xKw (tX bf ln) cu = 18 ∨ xKw (tX bf ln) cu = 19 ∨ xKw (tX bf ln) cu = 22 ∨ xKw (tX bf ln) cu = 24 from (by have i9 := hz_3.2 (); omega)) (by omega) (show ¬ ((xKw (tX bf ln) cu = 19 ∨ xKw (tX bf ln) cu = 22) ∧ 3 ≤ de) from (by omega)) (show xRe (tX bf ln) N n (xKw (tX bf ln) cu) (xEn (tX bf ln) cu) = _ from by rw [hkk]; exact st_20)⟩))⟩ (hP.sub [0, 1, 2, 3, 4, 5, 6, 7, 8, 9, 10, 11, 12] rfl) (hD.sub [0, 1, 2, 3, 4, 5, 6, 7, 8, 9, 10, 11, 12] rfl rfl) dX10_readStep_137
        ·
          have c_7 := mt (zlt (x := iZ de) (y := iZ 3) rfl rfl ⟨by omega, by omega⟩ wn_3).mpr c_7
          refine lv_aload_n hx hb dX10_readStep_76 rfl (lv_at hl 2 rfl) ?_
          refine va_get (D := D) (ci := 10) (v := .ref hr1) (C := RX10) (T := TX10) (N := 5) hx hb hts iX10 hown hK hP 0 rfl rfl 0 (bl rfl) (hts _ qf_X10_15) (fun _ h => h) rfl dX10_readStep_77 ?_
          refine lv_bipush (v := iZ 7) hx hb dX10_readStep_80 bip_7 ?_
          refine CWV (As := [.int (iZ 7)]) (rest := []) (wc := _) (wr := [(hv, .inr (10, [.ref hr1, .ref oo, .int (iZ de), .ref hy, .ref hs])), (oo, .inl (k 1, 3, .inl of0)), (hy, .inr (9, [.ref yw, .ref y1, .ref y2, .ref y3, .ref yp, .int (iZ th), .int (iZ ys), .int (iZ yr)])), (yw, .inl (k 1, 60, .inl ywf)), (y1, .inl (k 1, 60, .inl y1f)), (y2, .inl (k 1, 60, .inl y2f)), (y3, .inl (k 1, 60, .inl y3f)), (yp, .inl (k 1, 60, .inl ypf)), (hs, .inr (5, [.ref hN, .ref hf, .ref hg, .int (iZ n), .int (iZ ni), .int (iZ lw), .int (iZ we)])), (hN, .inl (k 2, 6, .inr (.inl nf)))]) hx hb hml hown hts hKK hP hD hS hA (x_fail l D k hr1 tx kw tp ln pl en ki va ke fk fp nm bf kwf cu 7 (by first | with_reducible assumption | exact ⟨⟨by omega, by omega⟩, ⟨by omega, by omega⟩, ⟨by omega, by omega⟩, by omega, ⟨by omega, by omega⟩, ⟨by omega, by omega⟩, by omega, by omega⟩) hrx) ci_X4_fail qm_X10_51 ⟨Nat.le_of_ble_eq_true rfl, Nat.le_of_ble_eq_true rfl⟩ ⟨Nat.le_of_ble_eq_true rfl, Nat.le_of_ble_eq_true rfl⟩ [2, 3, 4] [0, 1, 5, 6, 7, 8, 9, 10, 11, 12] rfl rfl rfl rfl rfl (dj rfl) 0 rfl rfl rfl hl.1 rfl (Nat.le_of_ble_eq_true rfl) dX10_readStep_82 (fun u_34 H locs hφ hP hD hS => ?_)
          have p_35 : u_34.1.2.1 = xFl (tX bf ln) cu 7 ∧ u_34.1.2.2 = xPl (tX bf ln) cu := hφ
          refine W.eq (g2 := F0 m 85 ls [.int (iZ 0)]) rfl ?_
          exact EWz hx hb hr hlocks hS ((0, pl, en, ki, va, ke, u_34.1.2.1, u_34.1.2.2, de, ys, yr), (0, nm), (of0, ywf, y1f, y2f, y3f), ()) rfl rfl ⟨(show (0 ≤ tp ∧ tp ≤ 900) ∧ (0 ≤ ln ∧ ln ≤ 900) ∧ (0 ≤ pl ∧ pl ≤ en) ∧ (en ≤ ln) ∧ (0 ≤ ki ∧ ki ≤ 4) ∧ (-2147483648 ≤ va ∧ va < 2147483648) ∧ (-1 ≤ ke ∧ ke ≤ 24) from (by first | with_reducible assumption | exact ⟨⟨by omega, by omega⟩, ⟨by omega, by omega⟩, ⟨by omega, by omega⟩, by omega, ⟨by omega, by omega⟩, ⟨by omega, by omega⟩, by omega, by omega⟩)), (show ((0 : Int) = 1 ∧ ∃ (q9 : Int) (W9 A9 B9 C9 P9 O9 : Int → Int), xSt (tX bf ln) N n cu (yr, ys, de, W0, A0, B0, C0, P0, O0) = .inr (q9, (yr, ys, de, W9, A9, B9, C9, P9, O9)) ∧ cu < q9 ∧ RDX (tX bf ln) q9 pl en ki va ke nm ∧ YSY yr de ywf y1f y2f y3f ypf of0 W9 A9 B9 C9 P9 O9 ∧ u_34.1.2.1 = fk ∧ u_34.1.2.2 = fp) ∨ ((0 : Int) = 0 ∧ xSt (tX bf ln) N n cu (yr, ys, de, W0, A0, B0, C0, P0, O0) = .inl (u_34.1.2.1, u_34.1.2.2)) from (Or.inr ⟨rfl, xSt_7 (show xKw (tX bf ln) cu = 15 ∨ xKw (tX bf ln) cu = 16 ∨ xKw (tX bf ln) cu = 17 ∨ xKw (tX bf ln) cu = 18 ∨ xKw (tX bf ln) cu = 19 ∨ xKw (tX bf ln) cu = 22 ∨ xKw (tX bf ln) cu = 24 from (by have i9 := hz_3.2 (); omega)) (by omega) ⟨(show xKw (tX bf ln) cu = 19 ∨ xKw (tX bf ln) cu = 22 from (by omega)), by omega⟩ p_35⟩))⟩ (hP.sub [0, 1, 10, 11, 12, 2, 3, 4, 5, 6, 7, 8, 9] rfl) (hD.sub [0, 1, 10, 11, 12, 2, 3, 4, 5, 6, 7, 8, 9] rfl rfl) dX10_readStep_85
      ·
        have c_5 := mt (zlt (x := iZ ys) (y := iZ 30) rfl rfl ⟨by omega, by omega⟩ wn_30).mpr c_5
        refine lv_aload_n hx hb dX10_readStep_54 rfl (lv_at hl 2 rfl) ?_
        refine va_get (D := D) (ci := 10) (v := .ref hr1) (C := RX10) (T := TX10) (N := 5) hx hb hts iX10 hown hK hP 0 rfl rfl 0 (bl rfl) (hts _ qf_X10_15) (fun _ h => h) rfl dX10_readStep_55 ?_
        refine lv_bipush (v := iZ 6) hx hb dX10_readStep_58 bip_6 ?_
        refine CWV (As := [.int (iZ 6)]) (rest := []) (wc := _) (wr := [(hv, .inr (10, [.ref hr1, .ref oo, .int (iZ de), .ref hy, .ref hs])), (oo, .inl (k 1, 3, .inl of0)), (hy, .inr (9, [.ref yw, .ref y1, .ref y2, .ref y3, .ref yp, .int (iZ th), .int (iZ ys), .int (iZ yr)])), (yw, .inl (k 1, 60, .inl ywf)), (y1, .inl (k 1, 60, .inl y1f)), (y2, .inl (k 1, 60, .inl y2f)), (y3, .inl (k 1, 60, .inl y3f)), (yp, .inl (k 1, 60, .inl ypf)), (hs, .inr (5, [.ref hN, .ref hf, .ref hg, .int (iZ n), .int (iZ ni), .int (iZ lw), .int (iZ we)])), (hN, .inl (k 2, 6, .inr (.inl nf)))]) hx hb hml hown hts hKK hP hD hS hA (x_fail l D k hr1 tx kw tp ln pl en ki va ke fk fp nm bf kwf cu 6 (by first | with_reducible assumption | exact ⟨⟨by omega, by omega⟩, ⟨by omega, by omega⟩, ⟨by omega, by omega⟩, by omega, ⟨by omega, by omega⟩, ⟨by omega, by omega⟩, by omega, by omega⟩) hrx) ci_X4_fail qm_X10_51 ⟨Nat.le_of_ble_eq_true rfl, Nat.le_of_ble_eq_true rfl⟩ ⟨Nat.le_of_ble_eq_true rfl, Nat.le_of_ble_eq_true rfl⟩ [2, 3, 4] [0, 1, 5, 6, 7, 8, 9, 10, 11, 12] rfl rfl rfl rfl rfl (dj rfl) 0 rfl rfl rfl hl.1 rfl (Nat.le_of_ble_eq_true rfl) dX10_readStep_60 (fun u_36 H locs hφ hP hD hS => ?_)
        have p_37 : u_36.1.2.1 = xFl (tX bf ln) cu 6 ∧ u_36.1.2.2 = xPl (tX bf ln) cu := hφ
        refine W.eq (g2 := F0 m 63 ls [.int (iZ 0)]) rfl ?_
        exact EWz hx hb hr hlocks hS ((0, pl, en, ki, va, ke, u_36.1.2.1, u_36.1.2.2, de, ys, yr), (0, nm), (of0, ywf, y1f, y2f, y3f), ()) rfl rfl ⟨(show (0 ≤ tp ∧ tp ≤ 900) ∧ (0 ≤ ln ∧ ln ≤ 900) ∧ (0 ≤ pl ∧ pl ≤ en) ∧ (en ≤ ln) ∧ (0 ≤ ki ∧ ki ≤ 4) ∧ (-2147483648 ≤ va ∧ va < 2147483648) ∧ (-1 ≤ ke ∧ ke ≤ 24) from (by first | with_reducible assumption | exact ⟨⟨by omega, by omega⟩, ⟨by omega, by omega⟩, ⟨by omega, by omega⟩, by omega, ⟨by omega, by omega⟩, ⟨by omega, by omega⟩, by omega, by omega⟩)), (show ((0 : Int) = 1 ∧ ∃ (q9 : Int) (W9 A9 B9 C9 P9 O9 : Int → Int), xSt (tX bf ln) N n cu (yr, ys, de, W0, A0, B0, C0, P0, O0) = .inr (q9, (yr, ys, de, W9, A9, B9, C9, P9, O9)) ∧ cu < q9 ∧ RDX (tX bf ln) q9 pl en ki va ke nm ∧ YSY yr de ywf y1f y2f y3f ypf of0 W9 A9 B9 C9 P9 O9 ∧ u_36.1.2.1 = fk ∧ u_36.1.2.2 = fp) ∨ ((0 : Int) = 0 ∧ xSt (tX bf ln) N n cu (yr, ys, de, W0, A0, B0, C0, P0, O0) = .inl (u_36.1.2.1, u_36.1.2.2)) from (Or.inr ⟨rfl, xSt_6 (show xKw (tX bf ln) cu = 15 ∨ xKw (tX bf ln) cu = 16 ∨ xKw (tX bf ln) cu = 17 ∨ xKw (tX bf ln) cu = 18 ∨ xKw (tX bf ln) cu = 19 ∨ xKw (tX bf ln) cu = 22 ∨ xKw (tX bf ln) cu = 24 from (by have i9 := hz_3.2 (); omega)) (by omega) p_37⟩))⟩ (hP.sub [0, 1, 10, 11, 12, 2, 3, 4, 5, 6, 7, 8, 9] rfl) (hD.sub [0, 1, 10, 11, 12, 2, 3, 4, 5, 6, 7, 8, 9] rfl rfl) dX10_readStep_63
    ·
      subst qz_3
      refine lv_if_ne (tgt := 42) hx hb dX10_readStep_30 rfl (fun c => absurd (by decide) c) (fun _ => ?_)
      refine lv_aload_n hx hb dX10_readStep_33 rfl (lv_at hl 2 rfl) ?_
      refine va_get (D := D) (ci := 10) (v := .ref hr1) (C := RX10) (T := TX10) (N := 5) hx hb hts iX10 hown hK hP 0 rfl rfl 0 (bl rfl) (hts _ qf_X10_15) (fun _ h => h) rfl dX10_readStep_34 ?_
      refine lv_iconst (v := iZ 2) hx hb dX10_readStep_37 rfl ?_
      refine CWV (As := [.int (iZ 2)]) (rest := []) (wc := _) (wr := [(hv, .inr (10, [.ref hr1, .ref oo, .int (iZ de), .ref hy, .ref hs])), (oo, .inl (k 1, 3, .inl of0)), (hy, .inr (9, [.ref yw, .ref y1, .ref y2, .ref y3, .ref yp, .int (iZ th), .int (iZ ys), .int (iZ yr)])), (yw, .inl (k 1, 60, .inl ywf)), (y1, .inl (k 1, 60, .inl y1f)), (y2, .inl (k 1, 60, .inl y2f)), (y3, .inl (k 1, 60, .inl y3f)), (yp, .inl (k 1, 60, .inl ypf)), (hs, .inr (5, [.ref hN, .ref hf, .ref hg, .int (iZ n), .int (iZ ni), .int (iZ lw), .int (iZ we)])), (hN, .inl (k 2, 6, .inr (.inl nf)))]) hx hb hml hown hts hKK hP hD hS hA (x_fail l D k hr1 tx kw tp ln pl en ki va ke fk fp nm bf kwf cu 2 (by first | with_reducible assumption | exact ⟨⟨by omega, by omega⟩, ⟨by omega, by omega⟩, ⟨by omega, by omega⟩, by omega, ⟨by omega, by omega⟩, ⟨by omega, by omega⟩, by omega, by omega⟩) hrx) ci_X4_fail qm_X10_51 ⟨Nat.le_of_ble_eq_true rfl, Nat.le_of_ble_eq_true rfl⟩ ⟨Nat.le_of_ble_eq_true rfl, Nat.le_of_ble_eq_true rfl⟩ [2, 3, 4] [0, 1, 5, 6, 7, 8, 9, 10, 11, 12] rfl rfl rfl rfl rfl (dj rfl) 0 rfl rfl rfl hl.1 rfl (Nat.le_of_ble_eq_true rfl) dX10_readStep_38 (fun u_39 H locs hφ hP hD hS => ?_)
      have p_40 : u_39.1.2.1 = xFl (tX bf ln) cu 2 ∧ u_39.1.2.2 = xPl (tX bf ln) cu := hφ
      refine W.eq (g2 := F0 m 41 ls [.int (iZ 0)]) rfl ?_
      exact EWz hx hb hr hlocks hS ((0, pl, en, ki, va, ke, u_39.1.2.1, u_39.1.2.2, de, ys, yr), (0, nm), (of0, ywf, y1f, y2f, y3f), ()) rfl rfl ⟨(show (0 ≤ tp ∧ tp ≤ 900) ∧ (0 ≤ ln ∧ ln ≤ 900) ∧ (0 ≤ pl ∧ pl ≤ en) ∧ (en ≤ ln) ∧ (0 ≤ ki ∧ ki ≤ 4) ∧ (-2147483648 ≤ va ∧ va < 2147483648) ∧ (-1 ≤ ke ∧ ke ≤ 24) from (by first | with_reducible assumption | exact ⟨⟨by omega, by omega⟩, ⟨by omega, by omega⟩, ⟨by omega, by omega⟩, by omega, ⟨by omega, by omega⟩, ⟨by omega, by omega⟩, by omega, by omega⟩)), (show ((0 : Int) = 1 ∧ ∃ (q9 : Int) (W9 A9 B9 C9 P9 O9 : Int → Int), xSt (tX bf ln) N n cu (yr, ys, de, W0, A0, B0, C0, P0, O0) = .inr (q9, (yr, ys, de, W9, A9, B9, C9, P9, O9)) ∧ cu < q9 ∧ RDX (tX bf ln) q9 pl en ki va ke nm ∧ YSY yr de ywf y1f y2f y3f ypf of0 W9 A9 B9 C9 P9 O9 ∧ u_39.1.2.1 = fk ∧ u_39.1.2.2 = fp) ∨ ((0 : Int) = 0 ∧ xSt (tX bf ln) N n cu (yr, ys, de, W0, A0, B0, C0, P0, O0) = .inl (u_39.1.2.1, u_39.1.2.2)) from (Or.inr ⟨rfl, xSt_2 (show ¬ (xKw (tX bf ln) cu = 15 ∨ xKw (tX bf ln) cu = 16 ∨ xKw (tX bf ln) cu = 17 ∨ xKw (tX bf ln) cu = 18 ∨ xKw (tX bf ln) cu = 19 ∨ xKw (tX bf ln) cu = 22 ∨ xKw (tX bf ln) cu = 24) from (by have i9 := hz_3 (); omega)) p_40⟩))⟩ (hP.sub [0, 1, 10, 11, 12, 2, 3, 4, 5, 6, 7, 8, 9] rfl) (hD.sub [0, 1, 10, 11, 12, 2, 3, 4, 5, 6, 7, 8, 9] rfl rfl) dX10_readStep_41
  ·
    have c_2 := mt (zeq (x := iZ ke) (y := iZ 19) rfl rfl ⟨by omega, by omega⟩ wn_19).mpr c_2
    refine lv_iload_n hx hb dX10_readStep_14 rfl (lv_at hl 0 rfl) ?_
    refine lv_bipush (v := iZ 22) hx hb dX10_readStep_15 bip_22 ?_
    refine lv_icmp_ne (tgt := 24) hx hb dX10_readStep_17 rfl (fun c_41 => ?_) (fun c_41 => ?_)
    ·
      have c_41 := mt (zeq (x := iZ ke) (y := iZ 22) rfl rfl ⟨by omega, by omega⟩ wn_22).mpr c_41
      refine lv_iconst (v := iZ 0) hx hb dX10_readStep_24 rfl ?_
      refine lv_istore_n (lv' := [(2, .int (iZ 0)), (1, .int (iZ ke)), (0, .ref hv)]) hx hb dX10_readStep_25 rfl hl (bl rfl) rfl (fun ls hl => ?_)
      refine lv_iload_n hx hb dX10_readStep_26 rfl (lv_at hl 1 rfl) ?_
      refine CPS (As := [.int (iZ ke)]) (rest := []) hx hb hml hown hts hKK (hP.sub (ws' := []) [] rfl) (x_isStep l D k ke ⟨by omega, by omega⟩) ci_X10_isStep qm_X10_72 ⟨Nat.le_of_ble_eq_true rfl, Nat.le_of_ble_eq_true rfl⟩ ⟨Nat.le_of_ble_eq_true rfl, Nat.le_of_ble_eq_true rfl⟩ rfl hl.1 rfl (Nat.le_of_ble_eq_true rfl) dX10_readStep_27 (fun z_42 hz_42 => ?_)
      rcases hz_42 with ⟨qz_42, hz_42⟩ | ⟨qz_42, hz_42⟩
      ·
        subst qz_42
        refine lv_if_ne (tgt := 42) hx hb dX10_readStep_30 rfl (fun _ => ?_) (fun c => absurd c (by decide))
        refine lv_aload_n hx hb dX10_readStep_42 rfl (lv_at hl 2 rfl) ?_
        refine va_get (D := D) (ci := 10) (v := .ref hy) (C := RX10) (T := TX10) (N := 5) hx hb hts iX10 hown hK hP 0 rfl rfl 3 (bl rfl) (hts _ qf_X10_19) (fun _ h => h) rfl dX10_readStep_43 ?_
        refine va_get (D := D) (ci := 9) (v := .int (iZ ys)) (C := RX9) (T := TX9) (N := 8) hx hb hts iX9 hown hK hP 5 rfl rfl 6 (bl rfl) (hts _ qf_X10_75) (fun _ h => h) rfl dX10_readStep_46 ?_
        refine lv_bipush (v := iZ 30) hx hb dX10_readStep_49 bip_30 ?_
        refine lv_icmp_lt (tgt := 64) hx hb dX10_readStep_51 rfl (fun c_44 => ?_) (fun c_44 => ?_)
        ·
          have c_44 := (zlt (x := iZ ys) (y := iZ 30) rfl rfl ⟨by omega, by omega⟩ wn_30).mp c_44
          refine lv_iload_n hx hb dX10_readStep_64 rfl (lv_at hl 0 rfl) ?_
          refine lv_if_eq (tgt := 86) hx hb dX10_readStep_65 rfl (fun _ => ?_) (fun c => absurd (by decide) c)
          refine lv_aload_n hx hb dX10_readStep_86 rfl (lv_at hl 2 rfl) ?_
          refine va_get (D := D) (ci := 10) (v := .ref hy) (C := RX10) (T := TX10) (N := 5) hx hb hts iX10 hown hK hP 0 rfl rfl 3 (bl rfl) (hts _ qf_X10_19) (fun _ h => h) rfl dX10_readStep_87 ?_
          refine lv_iload_n hx hb dX10_readStep_90 rfl (lv_at hl 1 rfl) ?_
          refine CWV (As := [.int (iZ ke)]) (rest := []) (wc := _) (wr := [(hv, .inr (10, [.ref hr1, .ref oo, .int (iZ de), .ref hy, .ref hs])), (oo, .inl (k 1, 3, .inl of0)), (hr1, .inr (4, [.ref tx, .ref kw, .int (iZ tp), .int (iZ ln), .int (iZ pl), .int (iZ en), .int (iZ ki), .int (iZ va), .int (iZ ke), .long nm, .int (iZ fk), .int (iZ fp)])), (tx, .inl (k 0, 900, .inl bf)), (kw, .inl (k 2, 25, .inr (.inl kwf))), (y1, .inl (k 1, 60, .inl y1f)), (y2, .inl (k 1, 60, .inl y2f)), (y3, .inl (k 1, 60, .inl y3f)), (yp, .inl (k 1, 60, .inl ypf)), (hs, .inr (5, [.ref hN, .ref hf, .ref hg, .int (iZ n), .int (iZ ni), .int (iZ lw), .int (iZ we)])), (hN, .inl (k 2, 6, .inr (.inl nf)))]) hx hb hml hown hts hKK hP hD hS hA (k_addRow l D k hy yw y1 y2 y3 yp ywf th ys yr ke ⟨by omega, by omega⟩ ) ci_X9_addRow qm_X10_62 ⟨Nat.le_of_ble_eq_true rfl, Nat.le_of_ble_eq_true rfl⟩ ⟨Nat.le_of_ble_eq_true rfl, Nat.le_of_ble_eq_true rfl⟩ [5, 6] [0, 1, 2, 3, 4, 7, 8, 9, 10, 11, 12] rfl rfl rfl rfl rfl (dj rfl) 0 rfl rfl rfl hl.1 rfl (Nat.le_of_ble_eq_true rfl) dX10_readStep_91 (fun u_46 H locs hφ hP hD hS => ?_)
          obtain ⟨f_47, hf_47⟩ : ∃ gg9, gg9 = upd ywf (iZ yr).toNatClampNeg (iZ ke) := ⟨_, rfl⟩
          rw [← hf_47] at hP hD
          refine W.eq (g2 := F0 m 94 ls [.int (iZ yr)]) rfl ?_
          refine lv_istore_n (lv' := [(3, .int (iZ yr)), (2, .int (iZ 0)), (1, .int (iZ ke)), (0, .ref hv)]) hx hb dX10_readStep_94 rfl hl (bl rfl) rfl (fun ls hl => ?_)
          refine lv_aload_n hx hb dX10_readStep_95 rfl (lv_at hl 3 rfl) ?_
          refine va_get (D := D) (ci := 10) (v := .ref hy) (C := RX10) (T := TX10) (N := 5) hx hb hts iX10 hown hK hP 0 rfl rfl 3 (bl rfl) (hts _ qf_X10_19) (fun _ h => h) rfl dX10_readStep_96 ?_
          refine lv_dup hx hb dX10_readStep_99 rfl ?_
          refine va_get (D := D) (ci := 9) (v := .int (iZ ys)) (C := RX9) (T := TX9) (N := 8) hx hb hts iX9 hown hK hP 11 rfl rfl 6 (bl rfl) (hts _ qf_X10_75) (fun _ h => h) rfl dX10_readStep_100 ?_
          refine lv_iconst (v := iZ 1) hx hb dX10_readStep_103 rfl ?_
          refine lv_iadd hx hb dX10_readStep_104 ?_
          refine lv_topi (fun x_48 ex_48 => ?_)
          obtain rfl : x_48 = iZ (ys + 1) := ex_48.trans (iZ_add ys 1)
          refine va_put (D := D) (ci := 9) (v := .int (iZ (ys + 1))) (ty := .int) (C := RX9) (T := TX9) (N := 8) hx hb hts iX9 tyX9 tyX9_ok nmX9 hown hK hP hD hS 11 rfl rfl 6 (bl rfl) (hts _ qf_X10_75) (fun _ h => h) rfl (by decide +kernel) rfl rfl (Nat.le_of_ble_eq_true rfl) dX10_readStep_105 (fun H locs hP hD hS => ?_)
          refine lv_aload_n hx hb dX10_readStep_108 rfl (lv_at hl 3 rfl) ?_
          refine va_get (D := D) (ci := 10) (v := .ref hr1) (C := RX10) (T := TX10) (N := 5) hx hb hts iX10 hown hK hP 0 rfl rfl 0 (bl rfl) (hts _ qf_X10_15) (fun _ h => h) rfl dX10_readStep_109 ?_
          refine CWV (As := []) (rest := []) (wc := _) (wr := [(hv, .inr (10, [.ref hr1, .ref oo, .int (iZ de), .ref hy, .ref hs])), (oo, .inl (k 1, 3, .inl of0)), (y1, .inl (k 1, 60, .inl y1f)), (y2, .inl (k 1, 60, .inl y2f)), (y3, .inl (k 1, 60, .inl y3f)), (yp, .inl (k 1, 60, .inl ypf)), (hs, .inr (5, [.ref hN, .ref hf, .ref hg, .int (iZ n), .int (iZ ni), .int (iZ lw), .int (iZ we)])), (hN, .inl (k 2, 6, .inr (.inl nf))), (hy, .inr (9, [.ref yw, .ref y1, .ref y2, .ref y3, .ref yp, .int (iZ th), .int (iZ (ys + 1)), .int (iZ (yr + 1))])), (yw, .inl (k 1, 60, .inl f_47))]) hx hb hml hown hts hKK hP hD hS hA (x_next l D k hr1 tx kw tp ln pl en ki va ke fk fp nm bf kwf ⟨⟨by omega, by omega⟩, ⟨by omega, by omega⟩, by omega, by omega⟩ hbf hkw) ci_X4_next qm_X10_59 ⟨Nat.le_of_ble_eq_true rfl, Nat.le_of_ble_eq_true rfl⟩ ⟨Nat.le_of_ble_eq_true rfl, Nat.le_of_ble_eq_true rfl⟩ [2, 3, 4] [0, 1, 5, 6, 7, 8, 9, 10, 11, 12] rfl rfl rfl rfl rfl (dj rfl) 0 rfl rfl rfl hl.1 rfl (Nat.le_of_ble_eq_true rfl) dX10_readStep_112 (fun u_49 H locs hφ hP hD hS => ?_)
          obtain ⟨p_50, p_51⟩ : (RDX (tX bf ln) en u_49.1.2.1 u_49.1.2.2.1 u_49.1.2.2.2.1 u_49.1.2.2.2.2.1 u_49.1.2.2.2.2.2 u_49.2.1.2) ∧ ((0 ≤ tp ∧ tp ≤ 900) ∧ (0 ≤ ln ∧ ln ≤ 900) ∧ (0 ≤ u_49.1.2.1 ∧ u_49.1.2.1 ≤ u_49.1.2.2.1) ∧ (u_49.1.2.2.1 ≤ ln) ∧ (0 ≤ u_49.1.2.2.2.1 ∧ u_49.1.2.2.2.1 ≤ 4) ∧ (-2147483648 ≤ u_49.1.2.2.2.2.1 ∧ u_49.1.2.2.2.2.1 < 2147483648) ∧ (-1 ≤ u_49.1.2.2.2.2.2 ∧ u_49.1.2.2.2.2.2 ≤ 24)) := hφ
          have rx_52 := RDX.nx hrx p_50
          obtain ⟨⟨ar_53, br_53⟩, cr_53, dr_53, er_53, fr_53, gr_53, hr_53⟩ := id rx_52
          obtain ⟨t1u_54, t2u_54, t3u_54, t4u_54, t5u_54, t6u_54, t7u_54⟩ := id p_51
          refine W.eq (g2 := F0 m 115 ls []) rfl ?_
          refine lv_aload_n hx hb dX10_readStep_115 rfl (lv_at hl 3 rfl) ?_
          refine lv_iload_n hx hb dX10_readStep_116 rfl (lv_at hl 2 rfl) ?_
          refine lv_iload_n hx hb dX10_readStep_117 rfl (lv_at hl 0 rfl) ?_
          refine CWV (As := [.int (iZ ke), .int (iZ yr)]) (rest := []) (wc := _) (wr := []) hx hb hml hown hts hKK hP hD hS hA (x_readRest l D k hv oo hr1 tx kw hs hN hf hg de of0 tp ln u_49.1.2.1 u_49.1.2.2.1 u_49.1.2.2.2.1 u_49.1.2.2.2.2.1 u_49.1.2.2.2.2.2 fk fp u_49.2.1.2 bf kwf hy yw y1 y2 y3 yp th (ys + 1) (yr + 1) f_47 y1f y2f y3f ypf n ni lw we nf (xEn (tX bf ln) cu) ke yr N (by first | with_reducible assumption | exact ⟨⟨by omega, by omega⟩, ⟨by omega, by omega⟩, ⟨by omega, by omega⟩, by omega, ⟨by omega, by omega⟩, ⟨by omega, by omega⟩, by omega, by omega⟩) hbf hkw rx_52 ⟨by omega, by omega⟩ ⟨by omega, by omega⟩ ⟨by omega, by omega⟩ hns) ci_X10_readRest qm_X10_78 ⟨Nat.le_of_ble_eq_true rfl, Nat.le_of_ble_eq_true rfl⟩ ⟨Nat.le_of_ble_eq_true rfl, Nat.le_of_ble_eq_true rfl⟩ [0, 1, 10, 11, 12, 8, 9, 2, 3, 4, 5, 6, 7] [] rfl rfl rfl rfl rfl (dj rfl) 0 rfl rfl rfl hl.1 rfl (Nat.le_of_ble_eq_true rfl) dX10_readStep_118 (fun u_55 H locs hφ hP hD hS => ?_)
          obtain ⟨p_56, p_57⟩ : ((0 ≤ tp ∧ tp ≤ 900) ∧ (0 ≤ ln ∧ ln ≤ 900) ∧ (0 ≤ u_55.1.2.1 ∧ u_55.1.2.1 ≤ u_55.1.2.2.1) ∧ (u_55.1.2.2.1 ≤ ln) ∧ (0 ≤ u_55.1.2.2.2.1 ∧ u_55.1.2.2.2.1 ≤ 4) ∧ (-2147483648 ≤ u_55.1.2.2.2.2.1 ∧ u_55.1.2.2.2.2.1 < 2147483648) ∧ (-1 ≤ u_55.1.2.2.2.2.2.1 ∧ u_55.1.2.2.2.2.2.1 ≤ 24)) ∧ (((u_55.1.1 : Int) = 1 ∧ ∃ (q9 a9 b9 c9 : Int), xRe (tX bf ln) N n ke (xEn (tX bf ln) cu) = .inr (q9, a9, b9, c9) ∧ (xEn (tX bf ln) cu) ≤ q9 ∧ RDX (tX bf ln) q9 u_55.1.2.1 u_55.1.2.2.1 u_55.1.2.2.2.1 u_55.1.2.2.2.2.1 u_55.1.2.2.2.2.2.1 u_55.2.1.2 ∧ (YF u_55.2.2.1.1 y1f yr a9 ∧ YF u_55.2.2.1.2.1 y2f yr b9 ∧ YF u_55.2.2.1.2.2 y3f yr c9) ∧ u_55.1.2.2.2.2.2.2.1 = fk ∧ u_55.1.2.2.2.2.2.2.2 = fp) ∨ ((u_55.1.1 : Int) = 0 ∧ xRe (tX bf ln) N n ke (xEn (tX bf ln) cu) = .inl (u_55.1.2.2.2.2.2.2.1, u_55.1.2.2.2.2.2.2.2))) := hφ
          refine W.eq (g2 := F0 m 121 ls [.int (iZ u_55.1.1)]) rfl ?_
          rcases p_57 with ⟨qt_58, cut_58, at_58, bt_58, ct_58, st_58, lt_58, xt_58, ft_58, ut_58, vt_58⟩ | ⟨qt_58, st_58⟩
          ·
            rw [qt_58]
            obtain ⟨⟨ar_59, br_59⟩, cr_59, dr_59, er_59, fr_59, gr_59, hr_59⟩ := id xt_58
            refine lv_if_eq (tgt := 136) hx hb dX10_readStep_121 rfl (fun c => absurd c (by decide)) (fun _ => ?_)
            refine lv_aload_n hx hb dX10_readStep_124 rfl (lv_at hl 3 rfl) ?_
            refine va_get (D := D) (ci := 10) (v := .ref hr1) (C := RX10) (T := TX10) (N := 5) hx hb hts iX10 hown hK hP 0 rfl rfl 0 (bl rfl) (hts _ qf_X10_15) (fun _ h => h) rfl dX10_readStep_125 ?_
            refine lv_bipush (v := iZ 59) hx hb dX10_readStep_128 bip_59 ?_
            refine CWV (As := [.int (iZ 59)]) (rest := []) (wc := _) (wr := [(hv, .inr (10, [.ref hr1, .ref oo, .int (iZ de), .ref hy, .ref hs])), (oo, .inl (k 1, 3, .inl of0)), (hy, .inr (9, [.ref yw, .ref y1, .ref y2, .ref y3, .ref yp, .int (iZ th), .int (iZ (ys + 1)), .int (iZ (yr + 1))])), (yw, .inl (k 1, 60, .inl f_47)), (y1, .inl (k 1, 60, .inl u_55.2.2.1.1)), (y2, .inl (k 1, 60, .inl u_55.2.2.1.2.1)), (y3, .inl (k 1, 60, .inl u_55.2.2.1.2.2)), (yp, .inl (k 1, 60, .inl ypf)), (hs, .inr (5, [.ref hN, .ref hf, .ref hg, .int (iZ n), .int (iZ ni), .int (iZ lw), .int (iZ we)])), (hN, .inl (k 2, 6, .inr (.inl nf)))]) hx hb hml hown hts hKK hP hD hS hA (x_takeSign l D k hr1 tx kw tp ln u_55.1.2.1 u_55.1.2.2.1 u_55.1.2.2.2.1 u_55.1.2.2.2.2.1 u_55.1.2.2.2.2.2.1 u_55.1.2.2.2.2.2.2.1 u_55.1.2.2.2.2.2.2.2 u_55.2.1.2 bf kwf cut_58 59 (by first | with_reducible assumption | exact ⟨⟨by omega, by omega⟩, ⟨by omega, by omega⟩, ⟨by omega, by omega⟩, by omega, ⟨by omega, by omega⟩, ⟨by omega, by omega⟩, by omega, by omega⟩) hbf hkw xt_58 ⟨by omega, by omega⟩) ci_X4_takeSign qm_X10_69 ⟨Nat.le_of_ble_eq_true rfl, Nat.le_of_ble_eq_true rfl⟩ ⟨Nat.le_of_ble_eq_true rfl, Nat.le_of_ble_eq_true rfl⟩ [2, 3, 4] [0, 1, 5, 6, 7, 8, 9, 10, 11, 12] rfl rfl rfl rfl rfl (dj rfl) 0 rfl rfl rfl hl.1 rfl (Nat.le_of_ble_eq_true rfl) dX10_readStep_130 (fun u_61 H locs hφ hP hD hS => ?_)
            obtain ⟨p_62, p_63⟩ : ((0 ≤ tp ∧ tp ≤ 900) ∧ (0 ≤ ln ∧ ln ≤ 900) ∧ (0 ≤ u_61.1.2.1 ∧ u_61.1.2.1 ≤ u_61.1.2.2.1) ∧ (u_61.1.2.2.1 ≤ ln) ∧ (0 ≤ u_61.1.2.2.2.1 ∧ u_61.1.2.2.2.1 ≤ 4) ∧ (-2147483648 ≤ u_61.1.2.2.2.2.1 ∧ u_61.1.2.2.2.2.1 < 2147483648) ∧ (-1 ≤ u_61.1.2.2.2.2.2.1 ∧ u_61.1.2.2.2.2.2.1 ≤ 24)) ∧ (((u_61.1.1 : Int) = 1 ∧ ∃ q9 : Int, xTs (tX bf ln) 59 cut_58 = .inr q9 ∧ cut_58 < q9 ∧ RDX (tX bf ln) q9 u_61.1.2.1 u_61.1.2.2.1 u_61.1.2.2.2.1 u_61.1.2.2.2.2.1 u_61.1.2.2.2.2.2.1 u_61.2.1.2 ∧ u_61.1.2.2.2.2.2.2.1 = u_55.1.2.2.2.2.2.2.1 ∧ u_61.1.2.2.2.2.2.2.2 = u_55.1.2.2.2.2.2.2.2) ∨ ((u_61.1.1 : Int) = 0 ∧ xTs (tX bf ln) 59 cut_58 = .inl (u_61.1.2.2.2.2.2.2.1, u_61.1.2.2.2.2.2.2.2))) := hφ
            refine W.eq (g2 := F0 m 133 ls [.int (iZ u_61.1.1)]) rfl ?_
            rcases p_63 with ⟨qt_64, cut_64, st_64, lt_64, xt_64, ut_64, vt_64⟩ | ⟨qt_64, st_64⟩
            ·
              rw [qt_64]
              obtain ⟨⟨ar_65, br_65⟩, cr_65, dr_65, er_65, fr_65, gr_65, hr_65⟩ := id xt_64
              refine lv_if_ne (tgt := 138) hx hb dX10_readStep_133 rfl (fun _ => ?_) (fun c => absurd c (by decide))
              refine lv_iload_n hx hb dX10_readStep_138 rfl (lv_at hl 1 rfl) ?_
              refine lv_if_eq (tgt := 162) hx hb dX10_readStep_139 rfl (fun _ => ?_) (fun c => absurd (by decide) c)
              refine lv_iconst (v := iZ 1) hx hb dX10_readStep_162 rfl ?_
              have hkk : xKw (tX bf ln) cu = ke := (by omega)
              have hnr := xRe_r (by omega) st_58
              have jW1 := yRw_u jW (v := ke) hf_47 ⟨by omega, by omega⟩ ⟨by omega, by omega⟩
              rw [← hkk] at jW1
              exact EWz hx hb hr hlocks hS ((1, u_61.1.2.1, u_61.1.2.2.1, u_61.1.2.2.2.1, u_61.1.2.2.2.2.1, u_61.1.2.2.2.2.2.1, u_61.1.2.2.2.2.2.2.1, u_61.1.2.2.2.2.2.2.2, de, (ys + 1), (yr + 1)), (0, u_61.2.1.2), (of0, f_47, u_55.2.2.1.1, u_55.2.2.1.2.1, u_55.2.2.1.2.2), ()) rfl rfl ⟨(show (0 ≤ tp ∧ tp ≤ 900) ∧ (0 ≤ ln ∧ ln ≤ 900) ∧ (0 ≤ u_61.1.2.1 ∧ u_61.1.2.1 ≤ u_61.1.2.2.1) ∧ (u_61.1.2.2.1 ≤ ln) ∧ (0 ≤ u_61.1.2.2.2.1 ∧ u_61.1.2.2.2.1 ≤ 4) ∧ (-2147483648 ≤ u_61.1.2.2.2.2.1 ∧ u_61.1.2.2.2.2.1 < 2147483648) ∧ (-1 ≤ u_61.1.2.2.2.2.2.1 ∧ u_61.1.2.2.2.2.2.1 ≤ 24) from (by first | with_reducible assumption | exact ⟨⟨by omega, by omega⟩, ⟨by omega, by omega⟩, ⟨by omega, by omega⟩, by omega, ⟨by omega, by omega⟩, ⟨by omega, by omega⟩, by omega, by omega⟩)), (show ((1 : Int) = 1 ∧ ∃ (q9 : Int) (W9 A9 B9 C9 P9 O9 : Int → Int), xSt (tX bf ln) N n cu (yr, ys, de, W0, A0, B0, C0, P0, O0) = .inr (q9, ((yr + 1), (ys + 1), de, W9, A9, B9, C9, P9, O9)) ∧ cu < q9 ∧ RDX (tX bf ln) q9 u_61.1.2.1 u_61.1.2.2.1 u_61.1.2.2.2.1 u_61.1.2.2.2.2.1 u_61.1.2.2.2.2.2.1 u_61.2.1.2 ∧ YSY (yr + 1) de f_47 u_55.2.2.1.1 u_55.2.2.1.2.1 u_55.2.2.1.2.2 ypf of0 W9 A9 B9 C9 P9 O9 ∧ u_61.1.2.2.2.2.2.2.1 = fk ∧ u_61.1.2.2.2.2.2.2.2 = fp) ∨ ((1 : Int) = 0 ∧ xSt (tX bf ln) N n cu (yr, ys, de, W0, A0, B0, C0, P0, O0) = .inl (u_61.1.2.2.2.2.2.2.1, u_61.1.2.2.2.2.2.2.2)) from (Or.inl ⟨rfl, _, _, _, _, _, _, _, xSt_k (show ¬ (xKw (tX bf ln) cu = 19 ∨ xKw (tX bf ln) cu = 22) from (by omega)) (show xKw (tX bf ln) cu = 15 ∨ xKw (tX bf ln) cu = 16 ∨ xKw (tX bf ln) cu = 17 ∨ xKw (tX bf ln) cu = 18 ∨ xKw (tX bf ln) cu = 19 ∨ xKw (tX bf ln) cu = 22 ∨ xKw (tX bf ln) cu = 24 from (by have i9 := hz_42.2 (); omega)) (by omega) (show xRe (tX bf ln) N n (xKw (tX bf ln) cu) (xEn (tX bf ln) cu) = _ from by rw [hkk]; exact st_58) st_64, by omega, xt_64, ⟨jW1, yRw_f jA ft_58.1 ⟨by omega, by omega⟩ ⟨by omega, by omega⟩, yRw_f jB ft_58.2.1 ⟨by omega, by omega⟩ ⟨by omega, by omega⟩, yRw_f jC ft_58.2.2 ⟨by omega, by omega⟩ ⟨by omega, by omega⟩, yRw_g jP (v6 yr (Int.le_refl _)).2.2.2.2, jO⟩, by omega, by omega⟩))⟩ (hP.sub [0, 1, 10, 11, 12, 2, 3, 4, 5, 6, 7, 8, 9] rfl) (hD.sub [0, 1, 10, 11, 12, 2, 3, 4, 5, 6, 7, 8, 9] rfl rfl) dX10_readStep_163
            ·
              rw [qt_64]
              refine lv_if_ne (tgt := 138) hx hb dX10_readStep_133 rfl (fun c => absurd (by decide) c) (fun _ => ?_)
              refine lv_iconst (v := iZ 0) hx hb dX10_readStep_136 rfl ?_
              have hkk : xKw (tX bf ln) cu = ke := (by omega)
              exact EWz hx hb hr hlocks hS ((0, u_61.1.2.1, u_61.1.2.2.1, u_61.1.2.2.2.1, u_61.1.2.2.2.2.1, u_61.1.2.2.2.2.2.1, u_61.1.2.2.2.2.2.2.1, u_61.1.2.2.2.2.2.2.2, de, (ys + 1), (yr + 1)), (0, u_61.2.1.2), (of0, f_47, u_55.2.2.1.1, u_55.2.2.1.2.1, u_55.2.2.1.2.2), ()) rfl rfl ⟨(show (0 ≤ tp ∧ tp ≤ 900) ∧ (0 ≤ ln ∧ ln ≤ 900) ∧ (0 ≤ u_61.1.2.1 ∧ u_61.1.2.1 ≤ u_61.1.2.2.1) ∧ (u_61.1.2.2.1 ≤ ln) ∧ (0 ≤ u_61.1.2.2.2.1 ∧ u_61.1.2.2.2.1 ≤ 4) ∧ (-2147483648 ≤ u_61.1.2.2.2.2.1 ∧ u_61.1.2.2.2.2.1 < 2147483648) ∧ (-1 ≤ u_61.1.2.2.2.2.2.1 ∧ u_61.1.2.2.2.2.2.1 ≤ 24) from (by first | with_reducible assumption | exact ⟨⟨by omega, by omega⟩, ⟨by omega, by omega⟩, ⟨by omega, by omega⟩, by omega, ⟨by omega, by omega⟩, ⟨by omega, by omega⟩, by omega, by omega⟩)), (show ((0 : Int) = 1 ∧ ∃ (q9 : Int) (W9 A9 B9 C9 P9 O9 : Int → Int), xSt (tX bf ln) N n cu (yr, ys, de, W0, A0, B0, C0, P0, O0) = .inr (q9, ((yr + 1), (ys + 1), de, W9, A9, B9, C9, P9, O9)) ∧ cu < q9 ∧ RDX (tX bf ln) q9 u_61.1.2.1 u_61.1.2.2.1 u_61.1.2.2.2.1 u_61.1.2.2.2.2.1 u_61.1.2.2.2.2.2.1 u_61.2.1.2 ∧ YSY (yr + 1) de f_47 u_55.2.2.1.1 u_55.2.2.1.2.1 u_55.2.2.1.2.2 ypf of0 W9 A9 B9 C9 P9 O9 ∧ u_61.1.2.2.2.2.2.2.1 = fk ∧ u_61.1.2.2.2.2.2.2.2 = fp) ∨ ((0 : Int) = 0 ∧ xSt (tX bf ln) N n cu (yr, ys, de, W0, A0, B0, C0, P0, O0) = .inl (u_61.1.2.2.2.2.2.2.1, u_61.1.2.2.2.2.2.2.2)) from (Or.inr ⟨rfl, xSt_b (show xKw (tX bf ln) cu = 15 ∨ xKw (tX bf ln) cu = 16 ∨ xKw (tX bf ln) cu = 17 ∨ xKw (tX bf ln) cu = 18 ∨ xKw (tX bf ln) cu = 19 ∨ xKw (tX bf ln) cu = 22 ∨ xKw (tX bf ln) cu = 24 from (by have i9 := hz_42.2 (); omega)) (by omega) (show ¬ ((xKw (tX bf ln) cu = 19 ∨ xKw (tX bf ln) cu = 22) ∧ 3 ≤ de) from (by omega)) (show xRe (tX bf ln) N n (xKw (tX bf ln) cu) (xEn (tX bf ln) cu) = _ from by rw [hkk]; exact st_58) st_64⟩))⟩ (hP.sub [0, 1, 10, 11, 12, 2, 3, 4, 5, 6, 7, 8, 9] rfl) (hD.sub [0, 1, 10, 11, 12, 2, 3, 4, 5, 6, 7, 8, 9] rfl rfl) dX10_readStep_137
          ·
            rw [qt_58]
            refine lv_if_eq (tgt := 136) hx hb dX10_readStep_121 rfl (fun _ => ?_) (fun c => absurd (by decide) c)
            refine lv_iconst (v := iZ 0) hx hb dX10_readStep_136 rfl ?_
            have hkk : xKw (tX bf ln) cu = ke := (by omega)
            exact EWz hx hb hr hlocks hS ((0, u_55.1.2.1, u_55.1.2.2.1, u_55.1.2.2.2.1, u_55.1.2.2.2.2.1, u_55.1.2.2.2.2.2.1, u_55.1.2.2.2.2.2.2.1, u_55.1.2.2.2.2.2.2.2, de, (ys + 1), (yr + 1)), (0, u_55.2.1.2), (of0, f_47, u_55.2.2.1.1, u_55.2.2.1.2.1, u_55.2.2.1.2.2), ()) rfl rfl ⟨(show (0 ≤ tp ∧ tp ≤ 900) ∧ (0 ≤ ln ∧ ln ≤ 900) ∧ (0 ≤ u_55.1.2.1 ∧ u_55.1.2.1 ≤ u_55.1.2.2.1) ∧ (u_55.1.2.2.1 ≤ ln) ∧ (0 ≤ u_55.1.2.2.2.1 ∧ u_55.1.2.2.2.1 ≤ 4) ∧ (-2147483648 ≤ u_55.1.2.2.2.2.1 ∧ u_55.1.2.2.2.2.1 < 2147483648) ∧ (-1 ≤ u_55.1.2.2.2.2.2.1 ∧ u_55.1.2.2.2.2.2.1 ≤ 24) from (by first | with_reducible assumption | exact ⟨⟨by omega, by omega⟩, ⟨by omega, by omega⟩, ⟨by omega, by omega⟩, by omega, ⟨by omega, by omega⟩, ⟨by omega, by omega⟩, by omega, by omega⟩)), (show ((0 : Int) = 1 ∧ ∃ (q9 : Int) (W9 A9 B9 C9 P9 O9 : Int → Int), xSt (tX bf ln) N n cu (yr, ys, de, W0, A0, B0, C0, P0, O0) = .inr (q9, ((yr + 1), (ys + 1), de, W9, A9, B9, C9, P9, O9)) ∧ cu < q9 ∧ RDX (tX bf ln) q9 u_55.1.2.1 u_55.1.2.2.1 u_55.1.2.2.2.1 u_55.1.2.2.2.2.1 u_55.1.2.2.2.2.2.1 u_55.2.1.2 ∧ YSY (yr + 1) de f_47 u_55.2.2.1.1 u_55.2.2.1.2.1 u_55.2.2.1.2.2 ypf of0 W9 A9 B9 C9 P9 O9 ∧ u_55.1.2.2.2.2.2.2.1 = fk ∧ u_55.1.2.2.2.2.2.2.2 = fp) ∨ ((0 : Int) = 0 ∧ xSt (tX bf ln) N n cu (yr, ys, de, W0, A0, B0, C0, P0, O0) = .inl (u_55.1.2.2.2.2.2.2.1, u_55.1.2.2.2.2.2.2.2)) from (Or.inr ⟨rfl, xSt_a (show xKw (tX bf ln) cu = 15 ∨ xKw (tX bf ln) cu = 16 ∨ xKw (tX bf ln) cu = 17 ∨ xKw (tX bf ln) cu = 18 ∨ xKw (tX bf ln) cu = 19 ∨ xKw (tX bf ln) cu = 22 ∨ xKw (tX bf ln) cu = 24 from (by have i9 := hz_42.2 (); omega)) (by omega) (show ¬ ((xKw (tX bf ln) cu = 19 ∨ xKw (tX bf ln) cu = 22) ∧ 3 ≤ de) from (by omega)) (show xRe (tX bf ln) N n (xKw (tX bf ln) cu) (xEn (tX bf ln) cu) = _ from by rw [hkk]; exact st_58)⟩))⟩ (hP.sub [0, 1, 2, 3, 4, 5, 6, 7, 8, 9, 10, 11, 12] rfl) (hD.sub [0, 1, 2, 3, 4, 5, 6, 7, 8, 9, 10, 11, 12] rfl rfl) dX10_readStep_137
        ·
          have c_44 := mt (zlt (x := iZ ys) (y := iZ 30) rfl rfl ⟨by omega, by omega⟩ wn_30).mpr c_44
          refine lv_aload_n hx hb dX10_readStep_54 rfl (lv_at hl 2 rfl) ?_
          refine va_get (D := D) (ci := 10) (v := .ref hr1) (C := RX10) (T := TX10) (N := 5) hx hb hts iX10 hown hK hP 0 rfl rfl 0 (bl rfl) (hts _ qf_X10_15) (fun _ h => h) rfl dX10_readStep_55 ?_
          refine lv_bipush (v := iZ 6) hx hb dX10_readStep_58 bip_6 ?_
          refine CWV (As := [.int (iZ 6)]) (rest := []) (wc := _) (wr := [(hv, .inr (10, [.ref hr1, .ref oo, .int (iZ de), .ref hy, .ref hs])), (oo, .inl (k 1, 3, .inl of0)), (hy, .inr (9, [.ref yw, .ref y1, .ref y2, .ref y3, .ref yp, .int (iZ th), .int (iZ ys), .int (iZ yr)])), (yw, .inl (k 1, 60, .inl ywf)), (y1, .inl (k 1, 60, .inl y1f)), (y2, .inl (k 1, 60, .inl y2f)), (y3, .inl (k 1, 60, .inl y3f)), (yp, .inl (k 1, 60, .inl ypf)), (hs, .inr (5, [.ref hN, .ref hf, .ref hg, .int (iZ n), .int (iZ ni), .int (iZ lw), .int (iZ we)])), (hN, .inl (k 2, 6, .inr (.inl nf)))]) hx hb hml hown hts hKK hP hD hS hA (x_fail l D k hr1 tx kw tp ln pl en ki va ke fk fp nm bf kwf cu 6 (by first | with_reducible assumption | exact ⟨⟨by omega, by omega⟩, ⟨by omega, by omega⟩, ⟨by omega, by omega⟩, by omega, ⟨by omega, by omega⟩, ⟨by omega, by omega⟩, by omega, by omega⟩) hrx) ci_X4_fail qm_X10_51 ⟨Nat.le_of_ble_eq_true rfl, Nat.le_of_ble_eq_true rfl⟩ ⟨Nat.le_of_ble_eq_true rfl, Nat.le_of_ble_eq_true rfl⟩ [2, 3, 4] [0, 1, 5, 6, 7, 8, 9, 10, 11, 12] rfl rfl rfl rfl rfl (dj rfl) 0 rfl rfl rfl hl.1 rfl (Nat.le_of_ble_eq_true rfl) dX10_readStep_60 (fun u_70 H locs hφ hP hD hS => ?_)
          have p_71 : u_70.1.2.1 = xFl (tX bf ln) cu 6 ∧ u_70.1.2.2 = xPl (tX bf ln) cu := hφ
          refine W.eq (g2 := F0 m 63 ls [.int (iZ 0)]) rfl ?_
          exact EWz hx hb hr hlocks hS ((0, pl, en, ki, va, ke, u_70.1.2.1, u_70.1.2.2, de, ys, yr), (0, nm), (of0, ywf, y1f, y2f, y3f), ()) rfl rfl ⟨(show (0 ≤ tp ∧ tp ≤ 900) ∧ (0 ≤ ln ∧ ln ≤ 900) ∧ (0 ≤ pl ∧ pl ≤ en) ∧ (en ≤ ln) ∧ (0 ≤ ki ∧ ki ≤ 4) ∧ (-2147483648 ≤ va ∧ va < 2147483648) ∧ (-1 ≤ ke ∧ ke ≤ 24) from (by first | with_reducible assumption | exact ⟨⟨by omega, by omega⟩, ⟨by omega, by omega⟩, ⟨by omega, by omega⟩, by omega, ⟨by omega, by omega⟩, ⟨by omega, by omega⟩, by omega, by omega⟩)), (show ((0 : Int) = 1 ∧ ∃ (q9 : Int) (W9 A9 B9 C9 P9 O9 : Int → Int), xSt (tX bf ln) N n cu (yr, ys, de, W0, A0, B0, C0, P0, O0) = .inr (q9, (yr, ys, de, W9, A9, B9, C9, P9, O9)) ∧ cu < q9 ∧ RDX (tX bf ln) q9 pl en ki va ke nm ∧ YSY yr de ywf y1f y2f y3f ypf of0 W9 A9 B9 C9 P9 O9 ∧ u_70.1.2.1 = fk ∧ u_70.1.2.2 = fp) ∨ ((0 : Int) = 0 ∧ xSt (tX bf ln) N n cu (yr, ys, de, W0, A0, B0, C0, P0, O0) = .inl (u_70.1.2.1, u_70.1.2.2)) from (Or.inr ⟨rfl, xSt_6 (show xKw (tX bf ln) cu = 15 ∨ xKw (tX bf ln) cu = 16 ∨ xKw (tX bf ln) cu = 17 ∨ xKw (tX bf ln) cu = 18 ∨ xKw (tX bf ln) cu = 19 ∨ xKw (tX bf ln) cu = 22 ∨ xKw (tX bf ln) cu = 24 from (by have i9 := hz_42.2 (); omega)) (by omega) p_71⟩))⟩ (hP.sub [0, 1, 10, 11, 12, 2, 3, 4, 5, 6, 7, 8, 9] rfl) (hD.sub [0, 1, 10, 11, 12, 2, 3, 4, 5, 6, 7, 8, 9] rfl rfl) dX10_readStep_63
      ·
        subst qz_42
        refine lv_if_ne (tgt := 42) hx hb dX10_readStep_30 rfl (fun c => absurd (by decide) c) (fun _ => ?_)
        refine lv_aload_n hx hb dX10_readStep_33 rfl (lv_at hl 2 rfl) ?_
        refine va_get (D := D) (ci := 10) (v := .ref hr1) (C := RX10) (T := TX10) (N := 5) hx hb hts iX10 hown hK hP 0 rfl rfl 0 (bl rfl) (hts _ qf_X10_15) (fun _ h => h) rfl dX10_readStep_34 ?_
        refine lv_iconst (v := iZ 2) hx hb dX10_readStep_37 rfl ?_
        refine CWV (As := [.int (iZ 2)]) (rest := []) (wc := _) (wr := [(hv, .inr (10, [.ref hr1, .ref oo, .int (iZ de), .ref hy, .ref hs])), (oo, .inl (k 1, 3, .inl of0)), (hy, .inr (9, [.ref yw, .ref y1, .ref y2, .ref y3, .ref yp, .int (iZ th), .int (iZ ys), .int (iZ yr)])), (yw, .inl (k 1, 60, .inl ywf)), (y1, .inl (k 1, 60, .inl y1f)), (y2, .inl (k 1, 60, .inl y2f)), (y3, .inl (k 1, 60, .inl y3f)), (yp, .inl (k 1, 60, .inl ypf)), (hs, .inr (5, [.ref hN, .ref hf, .ref hg, .int (iZ n), .int (iZ ni), .int (iZ lw), .int (iZ we)])), (hN, .inl (k 2, 6, .inr (.inl nf)))]) hx hb hml hown hts hKK hP hD hS hA (x_fail l D k hr1 tx kw tp ln pl en ki va ke fk fp nm bf kwf cu 2 (by first | with_reducible assumption | exact ⟨⟨by omega, by omega⟩, ⟨by omega, by omega⟩, ⟨by omega, by omega⟩, by omega, ⟨by omega, by omega⟩, ⟨by omega, by omega⟩, by omega, by omega⟩) hrx) ci_X4_fail qm_X10_51 ⟨Nat.le_of_ble_eq_true rfl, Nat.le_of_ble_eq_true rfl⟩ ⟨Nat.le_of_ble_eq_true rfl, Nat.le_of_ble_eq_true rfl⟩ [2, 3, 4] [0, 1, 5, 6, 7, 8, 9, 10, 11, 12] rfl rfl rfl rfl rfl (dj rfl) 0 rfl rfl rfl hl.1 rfl (Nat.le_of_ble_eq_true rfl) dX10_readStep_38 (fun u_73 H locs hφ hP hD hS => ?_)
        have p_74 : u_73.1.2.1 = xFl (tX bf ln) cu 2 ∧ u_73.1.2.2 = xPl (tX bf ln) cu := hφ
        refine W.eq (g2 := F0 m 41 ls [.int (iZ 0)]) rfl ?_
        exact EWz hx hb hr hlocks hS ((0, pl, en, ki, va, ke, u_73.1.2.1, u_73.1.2.2, de, ys, yr), (0, nm), (of0, ywf, y1f, y2f, y3f), ()) rfl rfl ⟨(show (0 ≤ tp ∧ tp ≤ 900) ∧ (0 ≤ ln ∧ ln ≤ 900) ∧ (0 ≤ pl ∧ pl ≤ en) ∧ (en ≤ ln) ∧ (0 ≤ ki ∧ ki ≤ 4) ∧ (-2147483648 ≤ va ∧ va < 2147483648) ∧ (-1 ≤ ke ∧ ke ≤ 24) from (by first | with_reducible assumption | exact ⟨⟨by omega, by omega⟩, ⟨by omega, by omega⟩, ⟨by omega, by omega⟩, by omega, ⟨by omega, by omega⟩, ⟨by omega, by omega⟩, by omega, by omega⟩)), (show ((0 : Int) = 1 ∧ ∃ (q9 : Int) (W9 A9 B9 C9 P9 O9 : Int → Int), xSt (tX bf ln) N n cu (yr, ys, de, W0, A0, B0, C0, P0, O0) = .inr (q9, (yr, ys, de, W9, A9, B9, C9, P9, O9)) ∧ cu < q9 ∧ RDX (tX bf ln) q9 pl en ki va ke nm ∧ YSY yr de ywf y1f y2f y3f ypf of0 W9 A9 B9 C9 P9 O9 ∧ u_73.1.2.1 = fk ∧ u_73.1.2.2 = fp) ∨ ((0 : Int) = 0 ∧ xSt (tX bf ln) N n cu (yr, ys, de, W0, A0, B0, C0, P0, O0) = .inl (u_73.1.2.1, u_73.1.2.2)) from (Or.inr ⟨rfl, xSt_2 (show ¬ (xKw (tX bf ln) cu = 15 ∨ xKw (tX bf ln) cu = 16 ∨ xKw (tX bf ln) cu = 17 ∨ xKw (tX bf ln) cu = 18 ∨ xKw (tX bf ln) cu = 19 ∨ xKw (tX bf ln) cu = 22 ∨ xKw (tX bf ln) cu = 24) from (by have i9 := hz_42 (); omega)) p_74⟩))⟩ (hP.sub [0, 1, 10, 11, 12, 2, 3, 4, 5, 6, 7, 8, 9] rfl) (hD.sub [0, 1, 10, 11, 12, 2, 3, 4, 5, 6, 7, 8, 9] rfl rfl) dX10_readStep_41
    ·
      have c_41 := (zeq (x := iZ ke) (y := iZ 22) rfl rfl ⟨by omega, by omega⟩ wn_22).mp c_41
      refine lv_iconst (v := iZ 1) hx hb dX10_readStep_20 rfl ?_
      refine lv_goto (tgt := 25) hx hb dX10_readStep_21 rfl ?_
      refine lv_istore_n (lv' := [(2, .int (iZ 1)), (1, .int (iZ ke)), (0, .ref hv)]) hx hb dX10_readStep_25 rfl hl (bl rfl) rfl (fun ls hl => ?_)
      refine lv_iload_n hx hb dX10_readStep_26 rfl (lv_at hl 1 rfl) ?_
      refine CPS (As := [.int (iZ ke)]) (rest := []) hx hb hml hown hts hKK (hP.sub (ws' := []) [] rfl) (x_isStep l D k ke ⟨by omega, by omega⟩) ci_X10_isStep qm_X10_72 ⟨Nat.le_of_ble_eq_true rfl, Nat.le_of_ble_eq_true rfl⟩ ⟨Nat.le_of_ble_eq_true rfl, Nat.le_of_ble_eq_true rfl⟩ rfl hl.1 rfl (Nat.le_of_ble_eq_true rfl) dX10_readStep_27 (fun z_75 hz_75 => ?_)
      rcases hz_75 with ⟨qz_75, hz_75⟩ | ⟨qz_75, hz_75⟩
      ·
        subst qz_75
        refine lv_if_ne (tgt := 42) hx hb dX10_readStep_30 rfl (fun _ => ?_) (fun c => absurd c (by decide))
        refine lv_aload_n hx hb dX10_readStep_42 rfl (lv_at hl 2 rfl) ?_
        refine va_get (D := D) (ci := 10) (v := .ref hy) (C := RX10) (T := TX10) (N := 5) hx hb hts iX10 hown hK hP 0 rfl rfl 3 (bl rfl) (hts _ qf_X10_19) (fun _ h => h) rfl dX10_readStep_43 ?_
        refine va_get (D := D) (ci := 9) (v := .int (iZ ys)) (C := RX9) (T := TX9) (N := 8) hx hb hts iX9 hown hK hP 5 rfl rfl 6 (bl rfl) (hts _ qf_X10_75) (fun _ h => h) rfl dX10_readStep_46 ?_
        refine lv_bipush (v := iZ 30) hx hb dX10_readStep_49 bip_30 ?_
        refine lv_icmp_lt (tgt := 64) hx hb dX10_readStep_51 rfl (fun c_77 => ?_) (fun c_77 => ?_)
        ·
          have c_77 := (zlt (x := iZ ys) (y := iZ 30) rfl rfl ⟨by omega, by omega⟩ wn_30).mp c_77
          refine lv_iload_n hx hb dX10_readStep_64 rfl (lv_at hl 0 rfl) ?_
          refine lv_if_eq (tgt := 86) hx hb dX10_readStep_65 rfl (fun c => absurd c (by decide)) (fun _ => ?_)
          refine lv_aload_n hx hb dX10_readStep_68 rfl (lv_at hl 2 rfl) ?_
          refine va_get (D := D) (ci := 10) (v := .int (iZ de)) (C := RX10) (T := TX10) (N := 5) hx hb hts iX10 hown hK hP 0 rfl rfl 2 (bl rfl) (hts _ qf_X10_32) (fun _ h => h) rfl dX10_readStep_69 ?_
          refine lv_iconst (v := iZ 3) hx hb dX10_readStep_72 rfl ?_
          refine lv_icmp_lt (tgt := 86) hx hb dX10_readStep_73 rfl (fun c_79 => ?_) (fun c_79 => ?_)
          ·
            have c_79 := (zlt (x := iZ de) (y := iZ 3) rfl rfl ⟨by omega, by omega⟩ wn_3).mp c_79
            refine lv_aload_n hx hb dX10_readStep_86 rfl (lv_at hl 2 rfl) ?_
            refine va_get (D := D) (ci := 10) (v := .ref hy) (C := RX10) (T := TX10) (N := 5) hx hb hts iX10 hown hK hP 0 rfl rfl 3 (bl rfl) (hts _ qf_X10_19) (fun _ h => h) rfl dX10_readStep_87 ?_
            refine lv_iload_n hx hb dX10_readStep_90 rfl (lv_at hl 1 rfl) ?_
            refine CWV (As := [.int (iZ ke)]) (rest := []) (wc := _) (wr := [(hv, .inr (10, [.ref hr1, .ref oo, .int (iZ de), .ref hy, .ref hs])), (oo, .inl (k 1, 3, .inl of0)), (hr1, .inr (4, [.ref tx, .ref kw, .int (iZ tp), .int (iZ ln), .int (iZ pl), .int (iZ en), .int (iZ ki), .int (iZ va), .int (iZ ke), .long nm, .int (iZ fk), .int (iZ fp)])), (tx, .inl (k 0, 900, .inl bf)), (kw, .inl (k 2, 25, .inr (.inl kwf))), (y1, .inl (k 1, 60, .inl y1f)), (y2, .inl (k 1, 60, .inl y2f)), (y3, .inl (k 1, 60, .inl y3f)), (yp, .inl (k 1, 60, .inl ypf)), (hs, .inr (5, [.ref hN, .ref hf, .ref hg, .int (iZ n), .int (iZ ni), .int (iZ lw), .int (iZ we)])), (hN, .inl (k 2, 6, .inr (.inl nf)))]) hx hb hml hown hts hKK hP hD hS hA (k_addRow l D k hy yw y1 y2 y3 yp ywf th ys yr ke ⟨by omega, by omega⟩ ) ci_X9_addRow qm_X10_62 ⟨Nat.le_of_ble_eq_true rfl, Nat.le_of_ble_eq_true rfl⟩ ⟨Nat.le_of_ble_eq_true rfl, Nat.le_of_ble_eq_true rfl⟩ [5, 6] [0, 1, 2, 3, 4, 7, 8, 9, 10, 11, 12] rfl rfl rfl rfl rfl (dj rfl) 0 rfl rfl rfl hl.1 rfl (Nat.le_of_ble_eq_true rfl) dX10_readStep_91 (fun u_80 H locs hφ hP hD hS => ?_)
            obtain ⟨f_81, hf_81⟩ : ∃ gg9, gg9 = upd ywf (iZ yr).toNatClampNeg (iZ ke) := ⟨_, rfl⟩
            rw [← hf_81] at hP hD
            refine W.eq (g2 := F0 m 94 ls [.int (iZ yr)]) rfl ?_
            refine lv_istore_n (lv' := [(3, .int (iZ yr)), (2, .int (iZ 1)), (1, .int (iZ ke)), (0, .ref hv)]) hx hb dX10_readStep_94 rfl hl (bl rfl) rfl (fun ls hl => ?_)
            refine lv_aload_n hx hb dX10_readStep_95 rfl (lv_at hl 3 rfl) ?_
            refine va_get (D := D) (ci := 10) (v := .ref hy) (C := RX10) (T := TX10) (N := 5) hx hb hts iX10 hown hK hP 0 rfl rfl 3 (bl rfl) (hts _ qf_X10_19) (fun _ h => h) rfl dX10_readStep_96 ?_
            refine lv_dup hx hb dX10_readStep_99 rfl ?_
            refine va_get (D := D) (ci := 9) (v := .int (iZ ys)) (C := RX9) (T := TX9) (N := 8) hx hb hts iX9 hown hK hP 11 rfl rfl 6 (bl rfl) (hts _ qf_X10_75) (fun _ h => h) rfl dX10_readStep_100 ?_
            refine lv_iconst (v := iZ 1) hx hb dX10_readStep_103 rfl ?_
            refine lv_iadd hx hb dX10_readStep_104 ?_
            refine lv_topi (fun x_82 ex_82 => ?_)
            obtain rfl : x_82 = iZ (ys + 1) := ex_82.trans (iZ_add ys 1)
            refine va_put (D := D) (ci := 9) (v := .int (iZ (ys + 1))) (ty := .int) (C := RX9) (T := TX9) (N := 8) hx hb hts iX9 tyX9 tyX9_ok nmX9 hown hK hP hD hS 11 rfl rfl 6 (bl rfl) (hts _ qf_X10_75) (fun _ h => h) rfl (by decide +kernel) rfl rfl (Nat.le_of_ble_eq_true rfl) dX10_readStep_105 (fun H locs hP hD hS => ?_)
            refine lv_aload_n hx hb dX10_readStep_108 rfl (lv_at hl 3 rfl) ?_
            refine va_get (D := D) (ci := 10) (v := .ref hr1) (C := RX10) (T := TX10) (N := 5) hx hb hts iX10 hown hK hP 0 rfl rfl 0 (bl rfl) (hts _ qf_X10_15) (fun _ h => h) rfl dX10_readStep_109 ?_
            refine CWV (As := []) (rest := []) (wc := _) (wr := [(hv, .inr (10, [.ref hr1, .ref oo, .int (iZ de), .ref hy, .ref hs])), (oo, .inl (k 1, 3, .inl of0)), (y1, .inl (k 1, 60, .inl y1f)), (y2, .inl (k 1, 60, .inl y2f)), (y3, .inl (k 1, 60, .inl y3f)), (yp, .inl (k 1, 60, .inl ypf)), (hs, .inr (5, [.ref hN, .ref hf, .ref hg, .int (iZ n), .int (iZ ni), .int (iZ lw), .int (iZ we)])), (hN, .inl (k 2, 6, .inr (.inl nf))), (hy, .inr (9, [.ref yw, .ref y1, .ref y2, .ref y3, .ref yp, .int (iZ th), .int (iZ (ys + 1)), .int (iZ (yr + 1))])), (yw, .inl (k 1, 60, .inl f_81))]) hx hb hml hown hts hKK hP hD hS hA (x_next l D k hr1 tx kw tp ln pl en ki va ke fk fp nm bf kwf ⟨⟨by omega, by omega⟩, ⟨by omega, by omega⟩, by omega, by omega⟩ hbf hkw) ci_X4_next qm_X10_59 ⟨Nat.le_of_ble_eq_true rfl, Nat.le_of_ble_eq_true rfl⟩ ⟨Nat.le_of_ble_eq_true rfl, Nat.le_of_ble_eq_true rfl⟩ [2, 3, 4] [0, 1, 5, 6, 7, 8, 9, 10, 11, 12] rfl rfl rfl rfl rfl (dj rfl) 0 rfl rfl rfl hl.1 rfl (Nat.le_of_ble_eq_true rfl) dX10_readStep_112 (fun u_83 H locs hφ hP hD hS => ?_)
            obtain ⟨p_84, p_85⟩ : (RDX (tX bf ln) en u_83.1.2.1 u_83.1.2.2.1 u_83.1.2.2.2.1 u_83.1.2.2.2.2.1 u_83.1.2.2.2.2.2 u_83.2.1.2) ∧ ((0 ≤ tp ∧ tp ≤ 900) ∧ (0 ≤ ln ∧ ln ≤ 900) ∧ (0 ≤ u_83.1.2.1 ∧ u_83.1.2.1 ≤ u_83.1.2.2.1) ∧ (u_83.1.2.2.1 ≤ ln) ∧ (0 ≤ u_83.1.2.2.2.1 ∧ u_83.1.2.2.2.1 ≤ 4) ∧ (-2147483648 ≤ u_83.1.2.2.2.2.1 ∧ u_83.1.2.2.2.2.1 < 2147483648) ∧ (-1 ≤ u_83.1.2.2.2.2.2 ∧ u_83.1.2.2.2.2.2 ≤ 24)) := hφ
            have rx_86 := RDX.nx hrx p_84
            obtain ⟨⟨ar_87, br_87⟩, cr_87, dr_87, er_87, fr_87, gr_87, hr_87⟩ := id rx_86
            obtain ⟨t1u_88, t2u_88, t3u_88, t4u_88, t5u_88, t6u_88, t7u_88⟩ := id p_85
            refine W.eq (g2 := F0 m 115 ls []) rfl ?_
            refine lv_aload_n hx hb dX10_readStep_115 rfl (lv_at hl 3 rfl) ?_
            refine lv_iload_n hx hb dX10_readStep_116 rfl (lv_at hl 2 rfl) ?_
            refine lv_iload_n hx hb dX10_readStep_117 rfl (lv_at hl 0 rfl) ?_
            refine CWV (As := [.int (iZ ke), .int (iZ yr)]) (rest := []) (wc := _) (wr := []) hx hb hml hown hts hKK hP hD hS hA (x_readRest l D k hv oo hr1 tx kw hs hN hf hg de of0 tp ln u_83.1.2.1 u_83.1.2.2.1 u_83.1.2.2.2.1 u_83.1.2.2.2.2.1 u_83.1.2.2.2.2.2 fk fp u_83.2.1.2 bf kwf hy yw y1 y2 y3 yp th (ys + 1) (yr + 1) f_81 y1f y2f y3f ypf n ni lw we nf (xEn (tX bf ln) cu) ke yr N (by first | with_reducible assumption | exact ⟨⟨by omega, by omega⟩, ⟨by omega, by omega⟩, ⟨by omega, by omega⟩, by omega, ⟨by omega, by omega⟩, ⟨by omega, by omega⟩, by omega, by omega⟩) hbf hkw rx_86 ⟨by omega, by omega⟩ ⟨by omega, by omega⟩ ⟨by omega, by omega⟩ hns) ci_X10_readRest qm_X10_78 ⟨Nat.le_of_ble_eq_true rfl, Nat.le_of_ble_eq_true rfl⟩ ⟨Nat.le_of_ble_eq_true rfl, Nat.le_of_ble_eq_true rfl⟩ [0, 1, 10, 11, 12, 8, 9, 2, 3, 4, 5, 6, 7] [] rfl rfl rfl rfl rfl (dj rfl) 0 rfl rfl rfl hl.1 rfl (Nat.le_of_ble_eq_true rfl) dX10_readStep_118 (fun u_89 H locs hφ hP hD hS => ?_)
            obtain ⟨p_90, p_91⟩ : ((0 ≤ tp ∧ tp ≤ 900) ∧ (0 ≤ ln ∧ ln ≤ 900) ∧ (0 ≤ u_89.1.2.1 ∧ u_89.1.2.1 ≤ u_89.1.2.2.1) ∧ (u_89.1.2.2.1 ≤ ln) ∧ (0 ≤ u_89.1.2.2.2.1 ∧ u_89.1.2.2.2.1 ≤ 4) ∧ (-2147483648 ≤ u_89.1.2.2.2.2.1 ∧ u_89.1.2.2.2.2.1 < 2147483648) ∧ (-1 ≤ u_89.1.2.2.2.2.2.1 ∧ u_89.1.2.2.2.2.2.1 ≤ 24)) ∧ (((u_89.1.1 : Int) = 1 ∧ ∃ (q9 a9 b9 c9 : Int), xRe (tX bf ln) N n ke (xEn (tX bf ln) cu) = .inr (q9, a9, b9, c9) ∧ (xEn (tX bf ln) cu) ≤ q9 ∧ RDX (tX bf ln) q9 u_89.1.2.1 u_89.1.2.2.1 u_89.1.2.2.2.1 u_89.1.2.2.2.2.1 u_89.1.2.2.2.2.2.1 u_89.2.1.2 ∧ (YF u_89.2.2.1.1 y1f yr a9 ∧ YF u_89.2.2.1.2.1 y2f yr b9 ∧ YF u_89.2.2.1.2.2 y3f yr c9) ∧ u_89.1.2.2.2.2.2.2.1 = fk ∧ u_89.1.2.2.2.2.2.2.2 = fp) ∨ ((u_89.1.1 : Int) = 0 ∧ xRe (tX bf ln) N n ke (xEn (tX bf ln) cu) = .inl (u_89.1.2.2.2.2.2.2.1, u_89.1.2.2.2.2.2.2.2))) := hφ
            refine W.eq (g2 := F0 m 121 ls [.int (iZ u_89.1.1)]) rfl ?_
            rcases p_91 with ⟨qt_92, cut_92, at_92, bt_92, ct_92, st_92, lt_92, xt_92, ft_92, ut_92, vt_92⟩ | ⟨qt_92, st_92⟩
            ·
              rw [qt_92]
              obtain ⟨⟨ar_93, br_93⟩, cr_93, dr_93, er_93, fr_93, gr_93, hr_93⟩ := id xt_92
              refine lv_if_eq (tgt := 136) hx hb dX10_readStep_121 rfl (fun c => absurd c (by decide)) (fun _ => ?_)
              refine lv_aload_n hx hb dX10_readStep_124 rfl (lv_at hl 3 rfl) ?_
              refine va_get (D := D) (ci := 10) (v := .ref hr1) (C := RX10) (T := TX10) (N := 5) hx hb hts iX10 hown hK hP 0 rfl rfl 0 (bl rfl) (hts _ qf_X10_15) (fun _ h => h) rfl dX10_readStep_125 ?_
              refine lv_bipush (v := iZ 59) hx hb dX10_readStep_128 bip_59 ?_
              refine CWV (As := [.int (iZ 59)]) (rest := []) (wc := _) (wr := [(hv, .inr (10, [.ref hr1, .ref oo, .int (iZ de), .ref hy, .ref hs])), (oo, .inl (k 1, 3, .inl of0)), (hy, .inr (9, [.ref yw, .ref y1, .ref y2, .ref y3, .ref yp, .int (iZ th), .int (iZ (ys + 1)), .int (iZ (yr + 1))])), (yw, .inl (k 1, 60, .inl f_81)), (y1, .inl (k 1, 60, .inl u_89.2.2.1.1)), (y2, .inl (k 1, 60, .inl u_89.2.2.1.2.1)), (y3, .inl (k 1, 60, .inl u_89.2.2.1.2.2)), (yp, .inl (k 1, 60, .inl ypf)), (hs, .inr (5, [.ref hN, .ref hf, .ref hg, .int (iZ n), .int (iZ ni), .int (iZ lw), .int (iZ we)])), (hN, .inl (k 2, 6, .inr (.inl nf)))]) hx hb hml hown hts hKK hP hD hS hA (x_takeSign l D k hr1 tx kw tp ln u_89.1.2.1 u_89.1.2.2.1 u_89.1.2.2.2.1 u_89.1.2.2.2.2.1 u_89.1.2.2.2.2.2.1 u_89.1.2.2.2.2.2.2.1 u_89.1.2.2.2.2.2.2.2 u_89.2.1.2 bf kwf cut_92 59 (by first | with_reducible assumption | exact ⟨⟨by omega, by omega⟩, ⟨by omega, by omega⟩, ⟨by omega, by omega⟩, by omega, ⟨by omega, by omega⟩, ⟨by omega, by omega⟩, by omega, by omega⟩) hbf hkw xt_92 ⟨by omega, by omega⟩) ci_X4_takeSign qm_X10_69 ⟨Nat.le_of_ble_eq_true rfl, Nat.le_of_ble_eq_true rfl⟩ ⟨Nat.le_of_ble_eq_true rfl, Nat.le_of_ble_eq_true rfl⟩ [2, 3, 4] [0, 1, 5, 6, 7, 8, 9, 10, 11, 12] rfl rfl rfl rfl rfl (dj rfl) 0 rfl rfl rfl hl.1 rfl (Nat.le_of_ble_eq_true rfl) dX10_readStep_130 (fun u_95 H locs hφ hP hD hS => ?_)
              obtain ⟨p_96, p_97⟩ : ((0 ≤ tp ∧ tp ≤ 900) ∧ (0 ≤ ln ∧ ln ≤ 900) ∧ (0 ≤ u_95.1.2.1 ∧ u_95.1.2.1 ≤ u_95.1.2.2.1) ∧ (u_95.1.2.2.1 ≤ ln) ∧ (0 ≤ u_95.1.2.2.2.1 ∧ u_95.1.2.2.2.1 ≤ 4) ∧ (-2147483648 ≤ u_95.1.2.2.2.2.1 ∧ u_95.1.2.2.2.2.1 < 2147483648) ∧ (-1 ≤ u_95.1.2.2.2.2.2.1 ∧ u_95.1.2.2.2.2.2.1 ≤ 24)) ∧ (((u_95.1.1 : Int) = 1 ∧ ∃ q9 : Int, xTs (tX bf ln) 59 cut_92 = .inr q9 ∧ cut_92 < q9 ∧ RDX (tX bf ln) q9 u_95.1.2.1 u_95.1.2.2.1 u_95.1.2.2.2.1 u_95.1.2.2.2.2.1 u_95.1.2.2.2.2.2.1 u_95.2.1.2 ∧ u_95.1.2.2.2.2.2.2.1 = u_89.1.2.2.2.2.2.2.1 ∧ u_95.1.2.2.2.2.2.2.2 = u_89.1.2.2.2.2.2.2.2) ∨ ((u_95.1.1 : Int) = 0 ∧ xTs (tX bf ln) 59 cut_92 = .inl (u_95.1.2.2.2.2.2.2.1, u_95.1.2.2.2.2.2.2.2))) := hφ
              refine W.eq (g2 := F0 m 133 ls [.int (iZ u_95.1.1)]) rfl ?_
              rcases p_97 with ⟨qt_98, cut_98, st_98, lt_98, xt_98, ut_98, vt_98⟩ | ⟨qt_98, st_98⟩
              ·
                rw [qt_98]
                obtain ⟨⟨ar_99, br_99⟩, cr_99, dr_99, er_99, fr_99, gr_99, hr_99⟩ := id xt_98
                refine lv_if_ne (tgt := 138) hx hb dX10_readStep_133 rfl (fun _ => ?_) (fun c => absurd c (by decide))
                refine lv_iload_n hx hb dX10_readStep_138 rfl (lv_at hl 1 rfl) ?_
                refine lv_if_eq (tgt := 162) hx hb dX10_readStep_139 rfl (fun c => absurd c (by decide)) (fun _ => ?_)
                refine lv_aload_n hx hb dX10_readStep_142 rfl (lv_at hl 3 rfl) ?_
                refine va_get (D := D) (ci := 10) (v := .ref oo) (C := RX10) (T := TX10) (N := 5) hx hb hts iX10 hown hK hP 0 rfl rfl 1 (bl rfl) (hts _ qf_X10_9) (fun _ h => h) rfl dX10_readStep_143 ?_
                refine lv_aload_n hx hb dX10_readStep_146 rfl (lv_at hl 3 rfl) ?_
                refine va_get (D := D) (ci := 10) (v := .int (iZ de)) (C := RX10) (T := TX10) (N := 5) hx hb hts iX10 hown hK hP 0 rfl rfl 2 (bl rfl) (hts _ qf_X10_32) (fun _ h => h) rfl dX10_readStep_147 ?_
                refine lv_iload_n hx hb dX10_readStep_150 rfl (lv_at hl 0 rfl) ?_
                refine va_iast hx hb hK hP hD hS 1 1 rfl rfl (zin (e := de) (n := 3) ⟨by omega, by omega⟩ (bl rfl)) dX10_readStep_151 (fun H locs hP hD hS => ?_)
                obtain ⟨f_102, hf_102⟩ : ∃ gg9, gg9 = upd of0 (iZ de).toNatClampNeg (iZ yr) := ⟨_, rfl⟩
                rw [← hf_102] at hP hD
                refine lv_aload_n hx hb dX10_readStep_152 rfl (lv_at hl 3 rfl) ?_
                refine lv_dup hx hb dX10_readStep_153 rfl ?_
                refine va_get (D := D) (ci := 10) (v := .int (iZ de)) (C := RX10) (T := TX10) (N := 5) hx hb hts iX10 hown hK hP 0 rfl rfl 2 (bl rfl) (hts _ qf_X10_32) (fun _ h => h) rfl dX10_readStep_154 ?_
                refine lv_iconst (v := iZ 1) hx hb dX10_readStep_157 rfl ?_
                refine lv_iadd hx hb dX10_readStep_158 ?_
                refine lv_topi (fun x_103 ex_103 => ?_)
                obtain rfl : x_103 = iZ (de + 1) := ex_103.trans (iZ_add de 1)
                refine va_put (D := D) (ci := 10) (v := .int (iZ (de + 1))) (ty := .int) (C := RX10) (T := TX10) (N := 5) hx hb hts iX10 tyX10 tyX10_ok nmX10 hown hK hP hD hS 0 rfl rfl 2 (bl rfl) (hts _ qf_X10_32) (fun _ h => h) rfl (by decide +kernel) rfl rfl (Nat.le_of_ble_eq_true rfl) dX10_readStep_159 (fun H locs hP hD hS => ?_)
                refine lv_iconst (v := iZ 1) hx hb dX10_readStep_162 rfl ?_
                have hkk : xKw (tX bf ln) cu = ke := (by omega)
                have hnr := xRe_r (by omega) st_92
                have jW1 := yRw_u jW (v := ke) hf_81 ⟨by omega, by omega⟩ ⟨by omega, by omega⟩
                rw [← hkk] at jW1
                exact EWz hx hb hr hlocks hS ((1, u_95.1.2.1, u_95.1.2.2.1, u_95.1.2.2.2.1, u_95.1.2.2.2.2.1, u_95.1.2.2.2.2.2.1, u_95.1.2.2.2.2.2.2.1, u_95.1.2.2.2.2.2.2.2, (de + 1), (ys + 1), (yr + 1)), (0, u_95.2.1.2), (f_102, f_81, u_89.2.2.1.1, u_89.2.2.1.2.1, u_89.2.2.1.2.2), ()) rfl rfl ⟨(show (0 ≤ tp ∧ tp ≤ 900) ∧ (0 ≤ ln ∧ ln ≤ 900) ∧ (0 ≤ u_95.1.2.1 ∧ u_95.1.2.1 ≤ u_95.1.2.2.1) ∧ (u_95.1.2.2.1 ≤ ln) ∧ (0 ≤ u_95.1.2.2.2.1 ∧ u_95.1.2.2.2.1 ≤ 4) ∧ (-2147483648 ≤ u_95.1.2.2.2.2.1 ∧ u_95.1.2.2.2.2.1 < 2147483648) ∧ (-1 ≤ u_95.1.2.2.2.2.2.1 ∧ u_95.1.2.2.2.2.2.1 ≤ 24) from (by first | with_reducible assumption | exact ⟨⟨by omega, by omega⟩, ⟨by omega, by omega⟩, ⟨by omega, by omega⟩, by omega, ⟨by omega, by omega⟩, ⟨by omega, by omega⟩, by omega, by omega⟩)), (show ((1 : Int) = 1 ∧ ∃ (q9 : Int) (W9 A9 B9 C9 P9 O9 : Int → Int), xSt (tX bf ln) N n cu (yr, ys, de, W0, A0, B0, C0, P0, O0) = .inr (q9, ((yr + 1), (ys + 1), (de + 1), W9, A9, B9, C9, P9, O9)) ∧ cu < q9 ∧ RDX (tX bf ln) q9 u_95.1.2.1 u_95.1.2.2.1 u_95.1.2.2.2.1 u_95.1.2.2.2.2.1 u_95.1.2.2.2.2.2.1 u_95.2.1.2 ∧ YSY (yr + 1) (de + 1) f_81 u_89.2.2.1.1 u_89.2.2.1.2.1 u_89.2.2.1.2.2 ypf f_102 W9 A9 B9 C9 P9 O9 ∧ u_95.1.2.2.2.2.2.2.1 = fk ∧ u_95.1.2.2.2.2.2.2.2 = fp) ∨ ((1 : Int) = 0 ∧ xSt (tX bf ln) N n cu (yr, ys, de, W0, A0, B0, C0, P0, O0) = .inl (u_95.1.2.2.2.2.2.2.1, u_95.1.2.2.2.2.2.2.2)) from (Or.inl ⟨rfl, _, _, _, _, _, _, _, xSt_o (show xKw (tX bf ln) cu = 19 ∨ xKw (tX bf ln) cu = 22 from (by omega)) (show xKw (tX bf ln) cu = 15 ∨ xKw (tX bf ln) cu = 16 ∨ xKw (tX bf ln) cu = 17 ∨ xKw (tX bf ln) cu = 18 ∨ xKw (tX bf ln) cu = 19 ∨ xKw (tX bf ln) cu = 22 ∨ xKw (tX bf ln) cu = 24 from (by have i9 := hz_75.2 (); omega)) (by omega) (by omega) (show xRe (tX bf ln) N n (xKw (tX bf ln) cu) (xEn (tX bf ln) cu) = _ from by rw [hkk]; exact st_92) st_98, by omega, xt_98, ⟨jW1, yRw_f jA ft_92.1 ⟨by omega, by omega⟩ ⟨by omega, by omega⟩, yRw_f jB ft_92.2.1 ⟨by omega, by omega⟩ ⟨by omega, by omega⟩, yRw_f jC ft_92.2.2 ⟨by omega, by omega⟩ ⟨by omega, by omega⟩, yRw_g jP (v6 yr (Int.le_refl _)).2.2.2.2, yRw_u jO hf_102 ⟨by omega, by omega⟩ ⟨by omega, by omega⟩⟩, by omega, by omega⟩))⟩ (hP.sub [0, 1, 10, 11, 12, 2, 3, 4, 5, 6, 7, 8, 9] rfl) (hD.sub [0, 1, 10, 11, 12, 2, 3, 4, 5, 6, 7, 8, 9] rfl rfl) dX10_readStep_163
              ·
                rw [qt_98]
                refine lv_if_ne (tgt := 138) hx hb dX10_readStep_133 rfl (fun c => absurd (by decide) c) (fun _ => ?_)
                refine lv_iconst (v := iZ 0) hx hb dX10_readStep_136 rfl ?_
                have hkk : xKw (tX bf ln) cu = ke := (by omega)
                exact EWz hx hb hr hlocks hS ((0, u_95.1.2.1, u_95.1.2.2.1, u_95.1.2.2.2.1, u_95.1.2.2.2.2.1, u_95.1.2.2.2.2.2.1, u_95.1.2.2.2.2.2.2.1, u_95.1.2.2.2.2.2.2.2, de, (ys + 1), (yr + 1)), (0, u_95.2.1.2), (of0, f_81, u_89.2.2.1.1, u_89.2.2.1.2.1, u_89.2.2.1.2.2), ()) rfl rfl ⟨(show (0 ≤ tp ∧ tp ≤ 900) ∧ (0 ≤ ln ∧ ln ≤ 900) ∧ (0 ≤ u_95.1.2.1 ∧ u_95.1.2.1 ≤ u_95.1.2.2.1) ∧ (u_95.1.2.2.1 ≤ ln) ∧ (0 ≤ u_95.1.2.2.2.1 ∧ u_95.1.2.2.2.1 ≤ 4) ∧ (-2147483648 ≤ u_95.1.2.2.2.2.1 ∧ u_95.1.2.2.2.2.1 < 2147483648) ∧ (-1 ≤ u_95.1.2.2.2.2.2.1 ∧ u_95.1.2.2.2.2.2.1 ≤ 24) from (by first | with_reducible assumption | exact ⟨⟨by omega, by omega⟩, ⟨by omega, by omega⟩, ⟨by omega, by omega⟩, by omega, ⟨by omega, by omega⟩, ⟨by omega, by omega⟩, by omega, by omega⟩)), (show ((0 : Int) = 1 ∧ ∃ (q9 : Int) (W9 A9 B9 C9 P9 O9 : Int → Int), xSt (tX bf ln) N n cu (yr, ys, de, W0, A0, B0, C0, P0, O0) = .inr (q9, ((yr + 1), (ys + 1), de, W9, A9, B9, C9, P9, O9)) ∧ cu < q9 ∧ RDX (tX bf ln) q9 u_95.1.2.1 u_95.1.2.2.1 u_95.1.2.2.2.1 u_95.1.2.2.2.2.1 u_95.1.2.2.2.2.2.1 u_95.2.1.2 ∧ YSY (yr + 1) de f_81 u_89.2.2.1.1 u_89.2.2.1.2.1 u_89.2.2.1.2.2 ypf of0 W9 A9 B9 C9 P9 O9 ∧ u_95.1.2.2.2.2.2.2.1 = fk ∧ u_95.1.2.2.2.2.2.2.2 = fp) ∨ ((0 : Int) = 0 ∧ xSt (tX bf ln) N n cu (yr, ys, de, W0, A0, B0, C0, P0, O0) = .inl (u_95.1.2.2.2.2.2.2.1, u_95.1.2.2.2.2.2.2.2)) from (Or.inr ⟨rfl, xSt_b (show xKw (tX bf ln) cu = 15 ∨ xKw (tX bf ln) cu = 16 ∨ xKw (tX bf ln) cu = 17 ∨ xKw (tX bf ln) cu = 18 ∨ xKw (tX bf ln) cu = 19 ∨ xKw (tX bf ln) cu = 22 ∨ xKw (tX bf ln) cu = 24 from (by have i9 := hz_75.2 (); omega)) (by omega) (show ¬ ((xKw (tX bf ln) cu = 19 ∨ xKw (tX bf ln) cu = 22) ∧ 3 ≤ de) from (by omega)) (show xRe (tX bf ln) N n (xKw (tX bf ln) cu) (xEn (tX bf ln) cu) = _ from by rw [hkk]; exact st_92) st_98⟩))⟩ (hP.sub [0, 1, 10, 11, 12, 2, 3, 4, 5, 6, 7, 8, 9] rfl) (hD.sub [0, 1, 10, 11, 12, 2, 3, 4, 5, 6, 7, 8, 9] rfl rfl) dX10_readStep_137
            ·
              rw [qt_92]
              refine lv_if_eq (tgt := 136) hx hb dX10_readStep_121 rfl (fun _ => ?_) (fun c => absurd (by decide) c)
              refine lv_iconst (v := iZ 0) hx hb dX10_readStep_136 rfl ?_
              have hkk : xKw (tX bf ln) cu = ke := (by omega)
              exact EWz hx hb hr hlocks hS ((0, u_89.1.2.1, u_89.1.2.2.1, u_89.1.2.2.2.1, u_89.1.2.2.2.2.1, u_89.1.2.2.2.2.2.1, u_89.1.2.2.2.2.2.2.1, u_89.1.2.2.2.2.2.2.2, de, (ys + 1), (yr + 1)), (0, u_89.2.1.2), (of0, f_81, u_89.2.2.1.1, u_89.2.2.1.2.1, u_89.2.2.1.2.2), ()) rfl rfl ⟨(show (0 ≤ tp ∧ tp ≤ 900) ∧ (0 ≤ ln ∧ ln ≤ 900) ∧ (0 ≤ u_89.1.2.1 ∧ u_89.1.2.1 ≤ u_89.1.2.2.1) ∧ (u_89.1.2.2.1 ≤ ln) ∧ (0 ≤ u_89.1.2.2.2.1 ∧ u_89.1.2.2.2.1 ≤ 4) ∧ (-2147483648 ≤ u_89.1.2.2.2.2.1 ∧ u_89.1.2.2.2.2.1 < 2147483648) ∧ (-1 ≤ u_89.1.2.2.2.2.2.1 ∧ u_89.1.2.2.2.2.2.1 ≤ 24) from (by first | with_reducible assumption | exact ⟨⟨by omega, by omega⟩, ⟨by omega, by omega⟩, ⟨by omega, by omega⟩, by omega, ⟨by omega, by omega⟩, ⟨by omega, by omega⟩, by omega, by omega⟩)), (show ((0 : Int) = 1 ∧ ∃ (q9 : Int) (W9 A9 B9 C9 P9 O9 : Int → Int), xSt (tX bf ln) N n cu (yr, ys, de, W0, A0, B0, C0, P0, O0) = .inr (q9, ((yr + 1), (ys + 1), de, W9, A9, B9, C9, P9, O9)) ∧ cu < q9 ∧ RDX (tX bf ln) q9 u_89.1.2.1 u_89.1.2.2.1 u_89.1.2.2.2.1 u_89.1.2.2.2.2.1 u_89.1.2.2.2.2.2.1 u_89.2.1.2 ∧ YSY (yr + 1) de f_81 u_89.2.2.1.1 u_89.2.2.1.2.1 u_89.2.2.1.2.2 ypf of0 W9 A9 B9 C9 P9 O9 ∧ u_89.1.2.2.2.2.2.2.1 = fk ∧ u_89.1.2.2.2.2.2.2.2 = fp) ∨ ((0 : Int) = 0 ∧ xSt (tX bf ln) N n cu (yr, ys, de, W0, A0, B0, C0, P0, O0) = .inl (u_89.1.2.2.2.2.2.2.1, u_89.1.2.2.2.2.2.2.2)) from (Or.inr ⟨rfl, xSt_a (show xKw (tX bf ln) cu = 15 ∨ xKw (tX bf ln) cu = 16 ∨ xKw (tX bf ln) cu = 17 ∨ xKw (tX bf ln) cu = 18 ∨ xKw (tX bf ln) cu = 19 ∨ xKw (tX bf ln) cu = 22 ∨ xKw (tX bf ln) cu = 24 from (by have i9 := hz_75.2 (); omega)) (by omega) (show ¬ ((xKw (tX bf ln) cu = 19 ∨ xKw (tX bf ln) cu = 22) ∧ 3 ≤ de) from (by omega)) (show xRe (tX bf ln) N n (xKw (tX bf ln) cu) (xEn (tX bf ln) cu) = _ from by rw [hkk]; exact st_92)⟩))⟩ (hP.sub [0, 1, 2, 3, 4, 5, 6, 7, 8, 9, 10, 11, 12] rfl) (hD.sub [0, 1, 2, 3, 4, 5, 6, 7, 8, 9, 10, 11, 12] rfl rfl) dX10_readStep_137
          ·
            have c_79 := mt (zlt (x := iZ de) (y := iZ 3) rfl rfl ⟨by omega, by omega⟩ wn_3).mpr c_79
            refine lv_aload_n hx hb dX10_readStep_76 rfl (lv_at hl 2 rfl) ?_
            refine va_get (D := D) (ci := 10) (v := .ref hr1) (C := RX10) (T := TX10) (N := 5) hx hb hts iX10 hown hK hP 0 rfl rfl 0 (bl rfl) (hts _ qf_X10_15) (fun _ h => h) rfl dX10_readStep_77 ?_
            refine lv_bipush (v := iZ 7) hx hb dX10_readStep_80 bip_7 ?_
            refine CWV (As := [.int (iZ 7)]) (rest := []) (wc := _) (wr := [(hv, .inr (10, [.ref hr1, .ref oo, .int (iZ de), .ref hy, .ref hs])), (oo, .inl (k 1, 3, .inl of0)), (hy, .inr (9, [.ref yw, .ref y1, .ref y2, .ref y3, .ref yp, .int (iZ th), .int (iZ ys), .int (iZ yr)])), (yw, .inl (k 1, 60, .inl ywf)), (y1, .inl (k 1, 60, .inl y1f)), (y2, .inl (k 1, 60, .inl y2f)), (y3, .inl (k 1, 60, .inl y3f)), (yp, .inl (k 1, 60, .inl ypf)), (hs, .inr (5, [.ref hN, .ref hf, .ref hg, .int (iZ n), .int (iZ ni), .int (iZ lw), .int (iZ we)])), (hN, .inl (k 2, 6, .inr (.inl nf)))]) hx hb hml hown hts hKK hP hD hS hA (x_fail l D k hr1 tx kw tp ln pl en ki va ke fk fp nm bf kwf cu 7 (by first | with_reducible assumption | exact ⟨⟨by omega, by omega⟩, ⟨by omega, by omega⟩, ⟨by omega, by omega⟩, by omega, ⟨by omega, by omega⟩, ⟨by omega, by omega⟩, by omega, by omega⟩) hrx) ci_X4_fail qm_X10_51 ⟨Nat.le_of_ble_eq_true rfl, Nat.le_of_ble_eq_true rfl⟩ ⟨Nat.le_of_ble_eq_true rfl, Nat.le_of_ble_eq_true rfl⟩ [2, 3, 4] [0, 1, 5, 6, 7, 8, 9, 10, 11, 12] rfl rfl rfl rfl rfl (dj rfl) 0 rfl rfl rfl hl.1 rfl (Nat.le_of_ble_eq_true rfl) dX10_readStep_82 (fun u_106 H locs hφ hP hD hS => ?_)
            have p_107 : u_106.1.2.1 = xFl (tX bf ln) cu 7 ∧ u_106.1.2.2 = xPl (tX bf ln) cu := hφ
            refine W.eq (g2 := F0 m 85 ls [.int (iZ 0)]) rfl ?_
            exact EWz hx hb hr hlocks hS ((0, pl, en, ki, va, ke, u_106.1.2.1, u_106.1.2.2, de, ys, yr), (0, nm), (of0, ywf, y1f, y2f, y3f), ()) rfl rfl ⟨(show (0 ≤ tp ∧ tp ≤ 900) ∧ (0 ≤ ln ∧ ln ≤ 900) ∧ (0 ≤ pl ∧ pl ≤ en) ∧ (en ≤ ln) ∧ (0 ≤ ki ∧ ki ≤ 4) ∧ (-2147483648 ≤ va ∧ va < 2147483648) ∧ (-1 ≤ ke ∧ ke ≤ 24) from (by first | with_reducible assumption | exact ⟨⟨by omega, by omega⟩, ⟨by omega, by omega⟩, ⟨by omega, by omega⟩, by omega, ⟨by omega, by omega⟩, ⟨by omega, by omega⟩, by omega, by omega⟩)), (show ((0 : Int) = 1 ∧ ∃ (q9 : Int) (W9 A9 B9 C9 P9 O9 : Int → Int), xSt (tX bf ln) N n cu (yr, ys, de, W0, A0, B0, C0, P0, O0) = .inr (q9, (yr, ys, de, W9, A9, B9, C9, P9, O9)) ∧ cu < q9 ∧ RDX (tX bf ln) q9 pl en ki va ke nm ∧ YSY yr de ywf y1f y2f y3f ypf of0 W9 A9 B9 C9 P9 O9 ∧ u_106.1.2.1 = fk ∧ u_106.1.2.2 = fp) ∨ ((0 : Int) = 0 ∧ xSt (tX bf ln) N n cu (yr, ys, de, W0, A0, B0, C0, P0, O0) = .inl (u_106.1.2.1, u_106.1.2.2)) from (Or.inr ⟨rfl, xSt_7 (show xKw (tX bf ln) cu = 15 ∨ xKw (tX bf ln) cu = 16 ∨ xKw (tX bf ln) cu = 17 ∨ xKw (tX bf ln) cu = 18 ∨ xKw (tX bf ln) cu = 19 ∨ xKw (tX bf ln) cu = 22 ∨ xKw (tX bf ln) cu = 24 from (by have i9 := hz_75.2 (); omega)) (by omega) ⟨(show xKw (tX bf ln) cu = 19 ∨ xKw (tX bf ln) cu = 22 from (by omega)), by omega⟩ p_107⟩))⟩ (hP.sub [0, 1, 10, 11, 12, 2, 3, 4, 5, 6, 7, 8, 9] rfl) (hD.sub [0, 1, 10, 11, 12, 2, 3, 4, 5, 6, 7, 8, 9] rfl rfl) dX10_readStep_85
        ·
          have c_77 := mt (zlt (x := iZ ys) (y := iZ 30) rfl rfl ⟨by omega, by omega⟩ wn_30).mpr c_77
          refine lv_aload_n hx hb dX10_readStep_54 rfl (lv_at hl 2 rfl) ?_
          refine va_get (D := D) (ci := 10) (v := .ref hr1) (C := RX10) (T := TX10) (N := 5) hx hb hts iX10 hown hK hP 0 rfl rfl 0 (bl rfl) (hts _ qf_X10_15) (fun _ h => h) rfl dX10_readStep_55 ?_
          refine lv_bipush (v := iZ 6) hx hb dX10_readStep_58 bip_6 ?_
          refine CWV (As := [.int (iZ 6)]) (rest := []) (wc := _) (wr := [(hv, .inr (10, [.ref hr1, .ref oo, .int (iZ de), .ref hy, .ref hs])), (oo, .inl (k 1, 3, .inl of0)), (hy, .inr (9, [.ref yw, .ref y1, .ref y2, .ref y3, .ref yp, .int (iZ th), .int (iZ ys), .int (iZ yr)])), (yw, .inl (k 1, 60, .inl ywf)), (y1, .inl (k 1, 60, .inl y1f)), (y2, .inl (k 1, 60, .inl y2f)), (y3, .inl (k 1, 60, .inl y3f)), (yp, .inl (k 1, 60, .inl ypf)), (hs, .inr (5, [.ref hN, .ref hf, .ref hg, .int (iZ n), .int (iZ ni), .int (iZ lw), .int (iZ we)])), (hN, .inl (k 2, 6, .inr (.inl nf)))]) hx hb hml hown hts hKK hP hD hS hA (x_fail l D k hr1 tx kw tp ln pl en ki va ke fk fp nm bf kwf cu 6 (by first | with_reducible assumption | exact ⟨⟨by omega, by omega⟩, ⟨by omega, by omega⟩, ⟨by omega, by omega⟩, by omega, ⟨by omega, by omega⟩, ⟨by omega, by omega⟩, by omega, by omega⟩) hrx) ci_X4_fail qm_X10_51 ⟨Nat.le_of_ble_eq_true rfl, Nat.le_of_ble_eq_true rfl⟩ ⟨Nat.le_of_ble_eq_true rfl, Nat.le_of_ble_eq_true rfl⟩ [2, 3, 4] [0, 1, 5, 6, 7, 8, 9, 10, 11, 12] rfl rfl rfl rfl rfl (dj rfl) 0 rfl rfl rfl hl.1 rfl (Nat.le_of_ble_eq_true rfl) dX10_readStep_60 (fun u_108 H locs hφ hP hD hS => ?_)
          have p_109 : u_108.1.2.1 = xFl (tX bf ln) cu 6 ∧ u_108.1.2.2 = xPl (tX bf ln) cu := hφ
          refine W.eq (g2 := F0 m 63 ls [.int (iZ 0)]) rfl ?_
          exact EWz hx hb hr hlocks hS ((0, pl, en, ki, va, ke, u_108.1.2.1, u_108.1.2.2, de, ys, yr), (0, nm), (of0, ywf, y1f, y2f, y3f), ()) rfl rfl ⟨(show (0 ≤ tp ∧ tp ≤ 900) ∧ (0 ≤ ln ∧ ln ≤ 900) ∧ (0 ≤ pl ∧ pl ≤ en) ∧ (en ≤ ln) ∧ (0 ≤ ki ∧ ki ≤ 4) ∧ (-2147483648 ≤ va ∧ va < 2147483648) ∧ (-1 ≤ ke ∧ ke ≤ 24) from (by first | with_reducible assumption | exact ⟨⟨by omega, by omega⟩, ⟨by omega, by omega⟩, ⟨by omega, by omega⟩, by omega, ⟨by omega, by omega⟩, ⟨by omega, by omega⟩, by omega, by omega⟩)), (show ((0 : Int) = 1 ∧ ∃ (q9 : Int) (W9 A9 B9 C9 P9 O9 : Int → Int), xSt (tX bf ln) N n cu (yr, ys, de, W0, A0, B0, C0, P0, O0) = .inr (q9, (yr, ys, de, W9, A9, B9, C9, P9, O9)) ∧ cu < q9 ∧ RDX (tX bf ln) q9 pl en ki va ke nm ∧ YSY yr de ywf y1f y2f y3f ypf of0 W9 A9 B9 C9 P9 O9 ∧ u_108.1.2.1 = fk ∧ u_108.1.2.2 = fp) ∨ ((0 : Int) = 0 ∧ xSt (tX bf ln) N n cu (yr, ys, de, W0, A0, B0, C0, P0, O0) = .inl (u_108.1.2.1, u_108.1.2.2)) from (Or.inr ⟨rfl, xSt_6 (show xKw (tX bf ln) cu = 15 ∨ xKw (tX bf ln) cu = 16 ∨ xKw (tX bf ln) cu = 17 ∨ xKw (tX bf ln) cu = 18 ∨ xKw (tX bf ln) cu = 19 ∨ xKw (tX bf ln) cu = 22 ∨ xKw (tX bf ln) cu = 24 from (by have i9 := hz_75.2 (); omega)) (by omega) p_109⟩))⟩ (hP.sub [0, 1, 10, 11, 12, 2, 3, 4, 5, 6, 7, 8, 9] rfl) (hD.sub [0, 1, 10, 11, 12, 2, 3, 4, 5, 6, 7, 8, 9] rfl rfl) dX10_readStep_63
      ·
        subst qz_75
        refine lv_if_ne (tgt := 42) hx hb dX10_readStep_30 rfl (fun c => absurd (by decide) c) (fun _ => ?_)
        refine lv_aload_n hx hb dX10_readStep_33 rfl (lv_at hl 2 rfl) ?_
        refine va_get (D := D) (ci := 10) (v := .ref hr1) (C := RX10) (T := TX10) (N := 5) hx hb hts iX10 hown hK hP 0 rfl rfl 0 (bl rfl) (hts _ qf_X10_15) (fun _ h => h) rfl dX10_readStep_34 ?_
        refine lv_iconst (v := iZ 2) hx hb dX10_readStep_37 rfl ?_
        refine CWV (As := [.int (iZ 2)]) (rest := []) (wc := _) (wr := [(hv, .inr (10, [.ref hr1, .ref oo, .int (iZ de), .ref hy, .ref hs])), (oo, .inl (k 1, 3, .inl of0)), (hy, .inr (9, [.ref yw, .ref y1, .ref y2, .ref y3, .ref yp, .int (iZ th), .int (iZ ys), .int (iZ yr)])), (yw, .inl (k 1, 60, .inl ywf)), (y1, .inl (k 1, 60, .inl y1f)), (y2, .inl (k 1, 60, .inl y2f)), (y3, .inl (k 1, 60, .inl y3f)), (yp, .inl (k 1, 60, .inl ypf)), (hs, .inr (5, [.ref hN, .ref hf, .ref hg, .int (iZ n), .int (iZ ni), .int (iZ lw), .int (iZ we)])), (hN, .inl (k 2, 6, .inr (.inl nf)))]) hx hb hml hown hts hKK hP hD hS hA (x_fail l D k hr1 tx kw tp ln pl en ki va ke fk fp nm bf kwf cu 2 (by first | with_reducible assumption | exact ⟨⟨by omega, by omega⟩, ⟨by omega, by omega⟩, ⟨by omega, by omega⟩, by omega, ⟨by omega, by omega⟩, ⟨by omega, by omega⟩, by omega, by omega⟩) hrx) ci_X4_fail qm_X10_51 ⟨Nat.le_of_ble_eq_true rfl, Nat.le_of_ble_eq_true rfl⟩ ⟨Nat.le_of_ble_eq_true rfl, Nat.le_of_ble_eq_true rfl⟩ [2, 3, 4] [0, 1, 5, 6, 7, 8, 9, 10, 11, 12] rfl rfl rfl rfl rfl (dj rfl) 0 rfl rfl rfl hl.1 rfl (Nat.le_of_ble_eq_true rfl) dX10_readStep_38 (fun u_111 H locs hφ hP hD hS => ?_)
        have p_112 : u_111.1.2.1 = xFl (tX bf ln) cu 2 ∧ u_111.1.2.2 = xPl (tX bf ln) cu := hφ
        refine W.eq (g2 := F0 m 41 ls [.int (iZ 0)]) rfl ?_
        exact EWz hx hb hr hlocks hS ((0, pl, en, ki, va, ke, u_111.1.2.1, u_111.1.2.2, de, ys, yr), (0, nm), (of0, ywf, y1f, y2f, y3f), ()) rfl rfl ⟨(show (0 ≤ tp ∧ tp ≤ 900) ∧ (0 ≤ ln ∧ ln ≤ 900) ∧ (0 ≤ pl ∧ pl ≤ en) ∧ (en ≤ ln) ∧ (0 ≤ ki ∧ ki ≤ 4) ∧ (-2147483648 ≤ va ∧ va < 2147483648) ∧ (-1 ≤ ke ∧ ke ≤ 24) from (by first | with_reducible assumption | exact ⟨⟨by omega, by omega⟩, ⟨by omega, by omega⟩, ⟨by omega, by omega⟩, by omega, ⟨by omega, by omega⟩, ⟨by omega, by omega⟩, by omega, by omega⟩)), (show ((0 : Int) = 1 ∧ ∃ (q9 : Int) (W9 A9 B9 C9 P9 O9 : Int → Int), xSt (tX bf ln) N n cu (yr, ys, de, W0, A0, B0, C0, P0, O0) = .inr (q9, (yr, ys, de, W9, A9, B9, C9, P9, O9)) ∧ cu < q9 ∧ RDX (tX bf ln) q9 pl en ki va ke nm ∧ YSY yr de ywf y1f y2f y3f ypf of0 W9 A9 B9 C9 P9 O9 ∧ u_111.1.2.1 = fk ∧ u_111.1.2.2 = fp) ∨ ((0 : Int) = 0 ∧ xSt (tX bf ln) N n cu (yr, ys, de, W0, A0, B0, C0, P0, O0) = .inl (u_111.1.2.1, u_111.1.2.2)) from (Or.inr ⟨rfl, xSt_2 (show ¬ (xKw (tX bf ln) cu = 15 ∨ xKw (tX bf ln) cu = 16 ∨ xKw (tX bf ln) cu = 17 ∨ xKw (tX bf ln) cu = 18 ∨ xKw (tX bf ln) cu = 19 ∨ xKw (tX bf ln) cu = 22 ∨ xKw (tX bf ln) cu = 24) from (by have i9 := hz_75 (); omega)) p_112⟩))⟩ (hP.sub [0, 1, 10, 11, 12, 2, 3, 4, 5, 6, 7, 8, 9] rfl) (hD.sub [0, 1, 10, 11, 12, 2, 3, 4, 5, 6, 7, 8, 9] rfl rfl) dX10_readStep_41
theorem xYrs_ok {T N : Int → Int} {n p : Int} {s : YS_} (h : xYa T N n 1000 0 yS0 = .inr (p, s)) (hd : ¬ 0 < s.2.2.1) : xYrs T N n = .inr s := by
  unfold xYrs
  rw [xBn_r h]
  exact if_neg hd
theorem xYrs_d {T N : Int → Int} {n p fk fp : Int} {s : YS_} (h : xYa T N n 1000 0 yS0 = .inr (p, s)) (hd : 0 < s.2.2.1) (hf : fk = xFl T p 2 ∧ fp = xPl T p) : xYrs T N n = .inl (fk, fp) := by
  unfold xYrs
  rw [xBn_r h, hf.1, hf.2]
  exact if_pos hd
theorem xYrs_l {T N : Int → Int} {n : Int} {e : Int × Int} (h : xYa T N n 1000 0 yS0 = .inl e) : xYrs T N n = .inl e := by
  unfold xYrs
  exact xBn_l h
theorem YI_of {n yr ys : Int} {w a b c p o : Nat → Int32} {W A B C P O : Int → Int} (h : YSY yr 0 w a b c p o W A B C P O) (v : YV_ n (yr, ys, 0, W, A, B, C, P, O)) (hn : n ≤ 6) : YI w a c p n yr := by
  obtain ⟨jW, jA, jB, jC, jP, jO⟩ := h
  obtain ⟨⟨v1, v2, v3, v4, v0⟩, v5, v6, v7, v8, v9⟩ := v
  intro r h1 h2
  obtain ⟨w1, w2, w3, w4⟩ := v9 r h1 h2
  obtain ⟨n1, n2, n3, n4, n5⟩ := w2
  have hw : ¬ W r = -1 := by
    rcases w1 with q | q
    · have q : W r = 15 ∨ W r = 16 ∨ W r = 17 ∨ W r = 18 ∨ W r = 19 ∨ W r = 22 ∨ W r = 24 := q
      omega
    · omega
  rw [jW r h1 h2 hw]
  refine ⟨fun e => ?_, fun e k => ?_, fun e => ?_⟩
  · have q := n3 e
    rw [jA r h1 h2 (by omega)]
    exact q
  · rcases n5 e with q | q | q
    · rw [jA r h1 h2 (by omega)] at k; omega
    · rw [jA r h1 h2 (by omega)] at k; omega
    · rw [jC r h1 h2 (by omega)]; omega
  · have q : 0 ≤ P r ∧ P r < yr := by
      rcases e with e | e
      · rcases w4 e with g | ⟨i, i1, -⟩
        · exact g
        · omega
      · exact w3 e
    rw [jP r h1 h2 (by omega)]
    exact q
set_option maxHeartbeats 4000000 in
set_option maxRecDepth 100000 in
theorem x_yreadInto (l : Launch) (D : va_G) (k : Nat → ClassId) (hv : Nat) (oo : Nat) (hr1 : Nat) (tx : Nat) (kw : Nat) (hs : Nat) (hN : Nat) (hf : Nat) (hg : Nat) (de : Int) (of0 : Nat → Int32) (tp : Int) (ln : Int) (pl : Int) (en : Int) (ki : Int) (va : Int) (ke : Int) (fk : Int) (fp : Int) (nm : Int64) (bf : Nat → Int32) (kwf : Nat → Int64) (hy : Nat) (yw : Nat) (y1 : Nat) (y2 : Nat) (y3 : Nat) (yp : Nat) (th : Int) (ys : Int) (yr : Int) (ywf : Nat → Int32) (y1f : Nat → Int32) (y2f : Nat → Int32) (y3f : Nat → Int32) (ypf : Nat → Int32) (n : Int) (ni : Int) (lw : Int) (we : Int) (nf : Nat → Int64) (sv : Value) (sv2 : Value) (cu : Int) (N : Int → Int) (hI1 : (0 ≤ tp ∧ tp ≤ 900) ∧ (0 ≤ ln ∧ ln ≤ 900) ∧ (0 ≤ pl ∧ pl ≤ en) ∧ (en ≤ ln) ∧ (0 ≤ ki ∧ ki ≤ 4) ∧ (-2147483648 ≤ va ∧ va < 2147483648) ∧ (-1 ≤ ke ∧ ke ≤ 24)) (hbf : rgI bf (-128) 127 900) (hkw : ∀ j : Nat, j < 25 → kwf j = lZ (kwC j)) (hrx : RDX (tX bf ln) cu pl en ki va ke nm) (hn : 0 ≤ n ∧ n ≤ 6) (hns : xNs nf N n) (hp0 : cu = 0) (hln : ln ≤ 300) : WD (σ := ((Int × Int × Int × Int × Int × Int × Int × Int × Int × Int × Int × Int) × (Int64 × Int64) × ((Nat → Int32) × (Nat → Int32) × (Nat → Int32) × (Nat → Int32) × (Nat → Int32) × (Nat → Int32)) × (Unit))) l yX10_readInto cX10_readInto 5 (some .boolean) 6 0 0 D k [.ref hv, .ref hy, .ref hs] [(hv, .inr (10, [.ref hr1, .ref oo, .int (iZ de), sv, sv2])), (oo, .inl (k 1, 3, .inl of0)), (hr1, .inr (4, [.ref tx, .ref kw, .int (iZ tp), .int (iZ ln), .int (iZ pl), .int (iZ en), .int (iZ ki), .int (iZ va), .int (iZ ke), .long nm, .int (iZ fk), .int (iZ fp)])), (tx, .inl (k 0, 900, .inl bf)), (kw, .inl (k 2, 25, .inr (.inl kwf))), (hy, .inr (9, [.ref yw, .ref y1, .ref y2, .ref y3, .ref yp, .int (iZ th), .int (iZ ys), .int (iZ yr)])), (yw, .inl (k 1, 60, .inl ywf)), (y1, .inl (k 1, 60, .inl y1f)), (y2, .inl (k 1, 60, .inl y2f)), (y3, .inl (k 1, 60, .inl y3f)), (yp, .inl (k 1, 60, .inl ypf)), (hs, .inr (5, [.ref hN, .ref hf, .ref hg, .int (iZ n), .int (iZ ni), .int (iZ lw), .int (iZ we)])), (hN, .inl (k 2, 6, .inr (.inl nf)))] (fun u => some (.int (iZ u.1.1))) (fun u => ((0 ≤ tp ∧ tp ≤ 900) ∧ (0 ≤ ln ∧ ln ≤ 900) ∧ (0 ≤ u.1.2.1 ∧ u.1.2.1 ≤ u.1.2.2.1) ∧ (u.1.2.2.1 ≤ ln) ∧ (0 ≤ u.1.2.2.2.1 ∧ u.1.2.2.2.1 ≤ 4) ∧ (-2147483648 ≤ u.1.2.2.2.2.1 ∧ u.1.2.2.2.2.1 < 2147483648) ∧ (-1 ≤ u.1.2.2.2.2.2.1 ∧ u.1.2.2.2.2.2.1 ≤ 24)) ∧ (u.1.1 = 0 ∨ u.1.1 = 1) ∧ (u.1.2.2.2.2.2.2.2.2.1 = u.1.1) ∧ (((u.1.1 : Int) = 1 ∧ ∃ W9 A9 B9 C9 P9 O9 : Int → Int, xYrs (tX bf ln) N n = .inr (u.1.2.2.2.2.2.2.2.2.2.2.2, u.1.2.2.2.2.2.2.2.2.2.2.1, 0, W9, A9, B9, C9, P9, O9) ∧ YSY u.1.2.2.2.2.2.2.2.2.2.2.2 0 u.2.2.1.2.1 u.2.2.1.2.2.1 u.2.2.1.2.2.2.1 u.2.2.1.2.2.2.2.1 u.2.2.1.2.2.2.2.2 u.2.2.1.1 W9 A9 B9 C9 P9 O9 ∧ YV_ n (u.1.2.2.2.2.2.2.2.2.2.2.2, u.1.2.2.2.2.2.2.2.2.2.2.1, 0, W9, A9, B9, C9, P9, O9) ∧ u.1.2.2.2.2.2.2.1 = fk ∧ u.1.2.2.2.2.2.2.2.1 = fp) ∨ ((u.1.1 : Int) = 0 ∧ xYrs (tX bf ln) N n = .inl (u.1.2.2.2.2.2.2.1, u.1.2.2.2.2.2.2.2.1)))) (fun u => [(hv, .inr (10, [.ref hr1, .ref oo, .int (iZ u.1.2.2.2.2.2.2.2.2.2.1), .ref hy, .ref hs])), (oo, .inl (k 1, 3, .inl u.2.2.1.1)), (hr1, .inr (4, [.ref tx, .ref kw, .int (iZ tp), .int (iZ ln), .int (iZ u.1.2.1), .int (iZ u.1.2.2.1), .int (iZ u.1.2.2.2.1), .int (iZ u.1.2.2.2.2.1), .int (iZ u.1.2.2.2.2.2.1), .long u.2.1.2, .int (iZ u.1.2.2.2.2.2.2.1), .int (iZ u.1.2.2.2.2.2.2.2.1)])), (tx, .inl (k 0, 900, .inl bf)), (kw, .inl (k 2, 25, .inr (.inl kwf))), (hy, .inr (9, [.ref yw, .ref y1, .ref y2, .ref y3, .ref yp, .int (iZ u.1.2.2.2.2.2.2.2.2.1), .int (iZ u.1.2.2.2.2.2.2.2.2.2.2.1), .int (iZ u.1.2.2.2.2.2.2.2.2.2.2.2)])), (yw, .inl (k 1, 60, .inl u.2.2.1.2.1)), (y1, .inl (k 1, 60, .inl u.2.2.1.2.2.1)), (y2, .inl (k 1, 60, .inl u.2.2.1.2.2.2.1)), (y3, .inl (k 1, 60, .inl u.2.2.1.2.2.2.2.1)), (yp, .inl (k 1, 60, .inl u.2.2.1.2.2.2.2.2)), (hs, .inr (5, [.ref hN, .ref hf, .ref hg, .int (iZ n), .int (iZ ni), .int (iZ lw), .int (iZ we)])), (hN, .inl (k 2, 6, .inr (.inl nf)))]) := by
  refine MW (by decide) (Nat.le_of_ble_eq_true rfl) (fun p e s m below meth c ls A hx hb hml hr hlocks hin hts hown hKK hP hD hS hA hl => ?_)
  have hK := hKK.1
  have hl : lv_has ls 5 [(0, .ref hv), (1, .ref hy), (2, .ref hs)] := hl
  obtain ⟨⟨ar_1, br_1⟩, cr_1, dr_1, er_1, fr_1, gr_1, hr_1⟩ := id hrx
  refine lv_aload_n hx hb dX10_readInto_0 rfl (lv_at hl 0 rfl) ?_
  refine lv_aload_n hx hb dX10_readInto_1 rfl (lv_at hl 1 rfl) ?_
  refine va_put (D := D) (ci := 10) (v := .ref hy) (ty := (tyX10 3)) (C := RX10) (T := TX10) (N := 5) hx hb hts iX10 tyX10 tyX10_ok nmX10 hown hK hP hD hS 0 rfl rfl 3 (bl rfl) (hts _ qf_X10_19) (fun _ h => h) rfl (by decide +kernel) rfl rfl (Nat.le_of_ble_eq_true rfl) dX10_readInto_2 (fun H locs hP hD hS => ?_)
  refine lv_aload_n hx hb dX10_readInto_5 rfl (lv_at hl 0 rfl) ?_
  refine lv_aload_n hx hb dX10_readInto_6 rfl (lv_at hl 2 rfl) ?_
  refine va_put (D := D) (ci := 10) (v := .ref hs) (ty := (tyX10 4)) (C := RX10) (T := TX10) (N := 5) hx hb hts iX10 tyX10 tyX10_ok nmX10 hown hK hP hD hS 0 rfl rfl 4 (bl rfl) (hts _ qf_X10_23) (fun _ h => h) rfl (by decide +kernel) rfl rfl (Nat.le_of_ble_eq_true rfl) dX10_readInto_7 (fun H locs hP hD hS => ?_)
  refine lv_aload_n hx hb dX10_readInto_10 rfl (lv_at hl 0 rfl) ?_
  refine va_get (D := D) (ci := 10) (v := .ref hy) (C := RX10) (T := TX10) (N := 5) hx hb hts iX10 hown hK hP 0 rfl rfl 3 (bl rfl) (hts _ qf_X10_19) (fun _ h => h) rfl dX10_readInto_11 ?_
  refine CWV (As := []) (rest := []) (wc := _) (wr := [(hv, .inr (10, [.ref hr1, .ref oo, .int (iZ de), .ref hy, .ref hs])), (oo, .inl (k 1, 3, .inl of0)), (hr1, .inr (4, [.ref tx, .ref kw, .int (iZ tp), .int (iZ ln), .int (iZ pl), .int (iZ en), .int (iZ ki), .int (iZ va), .int (iZ ke), .long nm, .int (iZ fk), .int (iZ fp)])), (tx, .inl (k 0, 900, .inl bf)), (kw, .inl (k 2, 25, .inr (.inl kwf))), (hs, .inr (5, [.ref hN, .ref hf, .ref hg, .int (iZ n), .int (iZ ni), .int (iZ lw), .int (iZ we)])), (hN, .inl (k 2, 6, .inr (.inl nf)))]) hx hb hml hown hts hKK hP hD hS hA (k_yclear l D k hy yw y1 y2 y3 yp th ys yr ywf y1f y2f y3f ypf) ci_X9_clear qm_X10_27 ⟨Nat.le_of_ble_eq_true rfl, Nat.le_of_ble_eq_true rfl⟩ ⟨Nat.le_of_ble_eq_true rfl, Nat.le_of_ble_eq_true rfl⟩ [5, 6, 7, 8, 9, 10] [0, 1, 2, 3, 4, 11, 12] rfl rfl rfl rfl rfl (dj rfl) 0 rfl rfl rfl hl.1 rfl (Nat.le_of_ble_eq_true rfl) dX10_readInto_14 (fun u_2 H locs hφ hP hD hS => ?_)
  refine W.eq (g2 := F0 m 17 ls []) rfl ?_
  refine lv_aload_n hx hb dX10_readInto_17 rfl (lv_at hl 0 rfl) ?_
  refine lv_iconst (v := iZ 0) hx hb dX10_readInto_18 rfl ?_
  refine va_put (D := D) (ci := 10) (v := .int (iZ 0)) (ty := .int) (C := RX10) (T := TX10) (N := 5) hx hb hts iX10 tyX10 tyX10_ok nmX10 hown hK hP hD hS 0 rfl rfl 2 (bl rfl) (hts _ qf_X10_32) (fun _ h => h) rfl (by decide +kernel) rfl rfl (Nat.le_of_ble_eq_true rfl) dX10_readInto_19 (fun H locs hP hD hS => ?_)
  refine lv_iconst (v := iZ 1) hx hb dX10_readInto_22 rfl ?_
  refine lv_istore_n (lv' := [(3, .int (iZ 1)), (0, .ref hv), (1, .ref hy), (2, .ref hs)]) hx hb dX10_readInto_23 rfl hl (bl rfl) rfl (fun ls hl => ?_)
  refine lv_iconst (v := iZ 0) hx hb dX10_readInto_24 rfl ?_
  refine lv_istore (lv' := [(4, .int (iZ 0)), (3, .int (iZ 1)), (0, .ref hv), (1, .ref hy), (2, .ref hs)]) hx hb dX10_readInto_25 hl (bl rfl) rfl (fun ls hl => ?_)
  have HL1 : ∀ (fu : Nat) (fi : Int) (i : Int) (pl3 : Int) (en3 : Int) (ki3 : Int) (va3 : Int) (ke3 : Int) (nm3 : Int64) (fk3 : Int) (fp3 : Int) (de3 : Int) (ys3 : Int) (yr3 : Int) (of03 : Nat → Int32) (ywf3 : Nat → Int32) (y1f3 : Nat → Int32) (y2f3 : Nat → Int32) (y3f3 : Nat → Int32) (ypf3 : Nat → Int32) (cp : Int) (cW : Int → Int) (cA : Int → Int) (cB : Int → Int) (cC : Int → Int) (cP : Int → Int) (cO : Int → Int) (H : Heap) (locs : List Loc) (ls : Array Slot), (302 - i) < (fu : Int) → (0 ≤ i ∧ i ≤ 301) → (fi = 0 ∨ fi = 1) → ((0 ≤ tp ∧ tp ≤ 900) ∧ (0 ≤ ln ∧ ln ≤ 900) ∧ (0 ≤ pl3 ∧ pl3 ≤ en3) ∧ (en3 ≤ ln) ∧ (0 ≤ ki3 ∧ ki3 ≤ 4) ∧ (-2147483648 ≤ va3 ∧ va3 < 2147483648) ∧ (-1 ≤ ke3 ∧ ke3 ≤ 24)) → (fi = 1 → YSY yr3 de3 ywf3 y1f3 y2f3 y3f3 ypf3 of03 cW cA cB cC cP cO ∧ YV_ n (yr3, ys3, de3, cW, cA, cB, cC, cP, cO) ∧ RDX (tX bf ln) cp pl3 en3 ki3 va3 ke3 nm3 ∧ xYa (tX bf ln) N n 1000 cu yS0 = xYa (tX bf ln) N n (Int.toNat (1000 - i)) cp (yr3, ys3, de3, cW, cA, cB, cC, cP, cO) ∧ i ≤ cp ∧ fk3 = fk ∧ fp3 = fp) → (fi = 0 → xYa (tX bf ln) N n 1000 cu yS0 = .inl (fk3, fp3)) → va_P D vwCl [(hv, .inr (10, [.ref hr1, .ref oo, .int (iZ de3), .ref hy, .ref hs])), (oo, .inl (k 1, 3, .inl of03)), (hr1, .inr (4, [.ref tx, .ref kw, .int (iZ tp), .int (iZ ln), .int (iZ pl3), .int (iZ en3), .int (iZ ki3), .int (iZ va3), .int (iZ ke3), .long nm3, .int (iZ fk3), .int (iZ fp3)])), (tx, .inl (k 0, 900, .inl bf)), (kw, .inl (k 2, 25, .inr (.inl kwf))), (hs, .inr (5, [.ref hN, .ref hf, .ref hg, .int (iZ n), .int (iZ ni), .int (iZ lw), .int (iZ we)])), (hN, .inl (k 2, 6, .inr (.inl nf))), (hy, .inr (9, [.ref yw, .ref y1, .ref y2, .ref y3, .ref yp, .int (iZ 0), .int (iZ ys3), .int (iZ yr3)])), (yw, .inl (k 1, 60, .inl ywf3)), (y1, .inl (k 1, 60, .inl y1f3)), (y2, .inl (k 1, 60, .inl y2f3)), (y3, .inl (k 1, 60, .inl y3f3)), (yp, .inl (k 1, 60, .inl ypf3))] H → va_D A [(hv, .inr (10, [.ref hr1, .ref oo, .int (iZ de3), .ref hy, .ref hs])), (oo, .inl (k 1, 3, .inl of03)), (hr1, .inr (4, [.ref tx, .ref kw, .int (iZ tp), .int (iZ ln), .int (iZ pl3), .int (iZ en3), .int (iZ ki3), .int (iZ va3), .int (iZ ke3), .long nm3, .int (iZ fk3), .int (iZ fp3)])), (tx, .inl (k 0, 900, .inl bf)), (kw, .inl (k 2, 25, .inr (.inl kwf))), (hs, .inr (5, [.ref hN, .ref hf, .ref hg, .int (iZ n), .int (iZ ni), .int (iZ lw), .int (iZ we)])), (hN, .inl (k 2, 6, .inr (.inl nf))), (hy, .inr (9, [.ref yw, .ref y1, .ref y2, .ref y3, .ref yp, .int (iZ 0), .int (iZ ys3), .int (iZ yr3)])), (yw, .inl (k 1, 60, .inl ywf3)), (y1, .inl (k 1, 60, .inl y1f3)), (y2, .inl (k 1, 60, .inl y2f3)), (y3, .inl (k 1, 60, .inl y3f3)), (yp, .inl (k 1, 60, .inl ypf3))] → va_S A s.heap H locs → lv_has ls 5 [(4, .int (iZ i)), (3, .int (iZ fi)), (0, .ref hv), (1, .ref hy), (2, .ref hs)] → W p l e (rj 6 0 0) s m [.ref hv, .ref hy, .ref hs].toArray below meth c H locs 0 0 (MQ below (QW (σ := ((Int × Int × Int × Int × Int × Int × Int × Int × Int × Int × Int × Int) × (Int64 × Int64) × ((Nat → Int32) × (Nat → Int32) × (Nat → Int32) × (Nat → Int32) × (Nat → Int32) × (Nat → Int32)) × (Unit))) (fun u => some (.int (iZ u.1.1))) (fun u => ((0 ≤ tp ∧ tp ≤ 900) ∧ (0 ≤ ln ∧ ln ≤ 900) ∧ (0 ≤ u.1.2.1 ∧ u.1.2.1 ≤ u.1.2.2.1) ∧ (u.1.2.2.1 ≤ ln) ∧ (0 ≤ u.1.2.2.2.1 ∧ u.1.2.2.2.1 ≤ 4) ∧ (-2147483648 ≤ u.1.2.2.2.2.1 ∧ u.1.2.2.2.2.1 < 2147483648) ∧ (-1 ≤ u.1.2.2.2.2.2.1 ∧ u.1.2.2.2.2.2.1 ≤ 24)) ∧ (u.1.1 = 0 ∨ u.1.1 = 1) ∧ (u.1.2.2.2.2.2.2.2.2.1 = u.1.1) ∧ (((u.1.1 : Int) = 1 ∧ ∃ W9 A9 B9 C9 P9 O9 : Int → Int, xYrs (tX bf ln) N n = .inr (u.1.2.2.2.2.2.2.2.2.2.2.2, u.1.2.2.2.2.2.2.2.2.2.2.1, 0, W9, A9, B9, C9, P9, O9) ∧ YSY u.1.2.2.2.2.2.2.2.2.2.2.2 0 u.2.2.1.2.1 u.2.2.1.2.2.1 u.2.2.1.2.2.2.1 u.2.2.1.2.2.2.2.1 u.2.2.1.2.2.2.2.2 u.2.2.1.1 W9 A9 B9 C9 P9 O9 ∧ YV_ n (u.1.2.2.2.2.2.2.2.2.2.2.2, u.1.2.2.2.2.2.2.2.2.2.2.1, 0, W9, A9, B9, C9, P9, O9) ∧ u.1.2.2.2.2.2.2.1 = fk ∧ u.1.2.2.2.2.2.2.2.1 = fp) ∨ ((u.1.1 : Int) = 0 ∧ xYrs (tX bf ln) N n = .inl (u.1.2.2.2.2.2.2.1, u.1.2.2.2.2.2.2.2.1)))) (fun u => [(hv, .inr (10, [.ref hr1, .ref oo, .int (iZ u.1.2.2.2.2.2.2.2.2.2.1), .ref hy, .ref hs])), (oo, .inl (k 1, 3, .inl u.2.2.1.1)), (hr1, .inr (4, [.ref tx, .ref kw, .int (iZ tp), .int (iZ ln), .int (iZ u.1.2.1), .int (iZ u.1.2.2.1), .int (iZ u.1.2.2.2.1), .int (iZ u.1.2.2.2.2.1), .int (iZ u.1.2.2.2.2.2.1), .long u.2.1.2, .int (iZ u.1.2.2.2.2.2.2.1), .int (iZ u.1.2.2.2.2.2.2.2.1)])), (tx, .inl (k 0, 900, .inl bf)), (kw, .inl (k 2, 25, .inr (.inl kwf))), (hy, .inr (9, [.ref yw, .ref y1, .ref y2, .ref y3, .ref yp, .int (iZ u.1.2.2.2.2.2.2.2.2.1), .int (iZ u.1.2.2.2.2.2.2.2.2.2.2.1), .int (iZ u.1.2.2.2.2.2.2.2.2.2.2.2)])), (yw, .inl (k 1, 60, .inl u.2.2.1.2.1)), (y1, .inl (k 1, 60, .inl u.2.2.1.2.2.1)), (y2, .inl (k 1, 60, .inl u.2.2.1.2.2.2.1)), (y3, .inl (k 1, 60, .inl u.2.2.1.2.2.2.2.1)), (yp, .inl (k 1, 60, .inl u.2.2.1.2.2.2.2.2)), (hs, .inr (5, [.ref hN, .ref hf, .ref hg, .int (iZ n), .int (iZ ni), .int (iZ lw), .int (iZ we)])), (hN, .inl (k 2, 6, .inr (.inl nf)))]) D A) [.ref hv, .ref hy, .ref hs].toArray s 0 0 A) (F0 m 27 ls []) := by
    intro fu
    induction fu with
    | zero => intro fi i pl3 en3 ki3 va3 ke3 nm3 fk3 fp3 de3 ys3 yr3 of03 ywf3 y1f3 y2f3 y3f3 ypf3 cp cW cA cB cC cP cO H locs ls hμ1 hi0 hfi hrd3 h1 h0 hP hD hS hl; exact absurd hμ1 (by omega)
    | succ fu ih1 =>
      intro fi i pl3 en3 ki3 va3 ke3 nm3 fk3 fp3 de3 ys3 yr3 of03 ywf3 y1f3 y2f3 y3f3 ypf3 cp cW cA cB cC cP cO H locs ls hμ1 hi0 hfi hrd3 h1 h0 hP hD hS hl
      refine lv_iload hx hb dX10_readInto_27 (lv_at hl 0 rfl) ?_
      refine lv_sipush (v := iZ 300) hx hb dX10_readInto_29 sip_300 ?_
      refine lv_icmp_gt (tgt := 79) hx hb dX10_readInto_32 rfl (fun c_3 => ?_) (fun c_3 => ?_)
      ·
        have c_3 := (zlt (x := iZ 300) (y := iZ i) rfl rfl wn_300 ⟨by omega, by omega⟩).mp c_3
        rcases hfi with rfl | rfl
        ·
          have hflt : xYa (tX bf ln) N n 1000 0 yS0 = .inl (fk3, fp3) := by rw [← hp0]; exact h0 rfl
          refine lv_iload_n hx hb dX10_readInto_79 rfl (lv_at hl 1 rfl) ?_
          refine lv_if_eq (tgt := 99) hx hb dX10_readInto_80 rfl (fun _ => ?_) (fun c => absurd (by decide) c)
          refine lv_aload_n hx hb dX10_readInto_99 rfl (lv_at hl 2 rfl) ?_
          refine va_get (D := D) (ci := 10) (v := .ref hy) (C := RX10) (T := TX10) (N := 5) hx hb hts iX10 hown hK hP 0 rfl rfl 3 (bl rfl) (hts _ qf_X10_19) (fun _ h => h) rfl dX10_readInto_100 ?_
          refine lv_iload_n hx hb dX10_readInto_103 rfl (lv_at hl 1 rfl) ?_
          refine va_put (D := D) (ci := 9) (v := .int (iZ 0)) (ty := .boolean) (C := RX9) (T := TX9) (N := 8) hx hb hts iX9 tyX9 tyX9_ok nmX9 hown hK hP hD hS 7 rfl rfl 5 (bl rfl) (hts _ qf_X10_55) (fun _ h => h) rfl (by decide +kernel) rfl rfl (Nat.le_of_ble_eq_true rfl) dX10_readInto_104 (fun H locs hP hD hS => ?_)
          refine lv_iload_n hx hb dX10_readInto_107 rfl (lv_at hl 1 rfl) ?_
          exact EWz hx hb hr hlocks hS ((0, pl3, en3, ki3, va3, ke3, fk3, fp3, 0, de3, ys3, yr3), (0, nm3), (of03, ywf3, y1f3, y2f3, y3f3, ypf3), ()) rfl rfl ⟨(show (0 ≤ tp ∧ tp ≤ 900) ∧ (0 ≤ ln ∧ ln ≤ 900) ∧ (0 ≤ pl3 ∧ pl3 ≤ en3) ∧ (en3 ≤ ln) ∧ (0 ≤ ki3 ∧ ki3 ≤ 4) ∧ (-2147483648 ≤ va3 ∧ va3 < 2147483648) ∧ (-1 ≤ ke3 ∧ ke3 ≤ 24) from (by first | with_reducible assumption | exact ⟨⟨by omega, by omega⟩, ⟨by omega, by omega⟩, ⟨by omega, by omega⟩, by omega, ⟨by omega, by omega⟩, ⟨by omega, by omega⟩, by omega, by omega⟩)), (show 0 = 0 ∨ 0 = 1 from (by omega)), (show 0 = 0 from (by omega)), (show ((0 : Int) = 1 ∧ ∃ W9 A9 B9 C9 P9 O9 : Int → Int, xYrs (tX bf ln) N n = .inr (yr3, ys3, 0, W9, A9, B9, C9, P9, O9) ∧ YSY yr3 0 ywf3 y1f3 y2f3 y3f3 ypf3 of03 W9 A9 B9 C9 P9 O9 ∧ YV_ n (yr3, ys3, 0, W9, A9, B9, C9, P9, O9) ∧ fk3 = fk ∧ fp3 = fp) ∨ ((0 : Int) = 0 ∧ xYrs (tX bf ln) N n = .inl (fk3, fp3)) from (Or.inr ⟨rfl, xYrs_l hflt⟩))⟩ (hP.sub [0, 1, 2, 3, 4, 7, 8, 9, 10, 11, 12, 5, 6] rfl) (hD.sub [0, 1, 2, 3, 4, 7, 8, 9, 10, 11, 12, 5, 6] rfl rfl) dX10_readInto_108
        ·
          obtain ⟨hS3, hV3, hx3, hA3, hi3, hk3, hp3⟩ := h1 rfl
          obtain ⟨⟨ar_5, br_5⟩, cr_5, dr_5, er_5, fr_5, gr_5, hr_5⟩ := id hx3
          obtain ⟨⟨v1, v2, v3, v4, v0⟩, v5, v6, v7, v8, v9⟩ := id hV3
          have hend : xYa (tX bf ln) N n 1000 0 yS0 = .inr (cp, (yr3, ys3, de3, cW, cA, cB, cC, cP, cO)) := by rw [← hp0]; exact xYa_end (i := i) ⟨by omega, by omega⟩ hA3 (by omega)
          refine lv_iload_n hx hb dX10_readInto_79 rfl (lv_at hl 1 rfl) ?_
          refine lv_if_eq (tgt := 99) hx hb dX10_readInto_80 rfl (fun c => absurd c (by decide)) (fun _ => ?_)
          refine lv_aload_n hx hb dX10_readInto_83 rfl (lv_at hl 2 rfl) ?_
          refine va_get (D := D) (ci := 10) (v := .int (iZ de3)) (C := RX10) (T := TX10) (N := 5) hx hb hts iX10 hown hK hP 0 rfl rfl 2 (bl rfl) (hts _ qf_X10_32) (fun _ h => h) rfl dX10_readInto_84 ?_
          refine lv_if_le (tgt := 99) hx hb dX10_readInto_87 rfl (fun c_7 => ?_) (fun c_7 => ?_)
          ·
            have c_7 := (zle (x := iZ de3) (y := iZ 0) rfl rfl ⟨by omega, by omega⟩ wn_0).mp c_7
            refine lv_aload_n hx hb dX10_readInto_99 rfl (lv_at hl 2 rfl) ?_
            refine va_get (D := D) (ci := 10) (v := .ref hy) (C := RX10) (T := TX10) (N := 5) hx hb hts iX10 hown hK hP 0 rfl rfl 3 (bl rfl) (hts _ qf_X10_19) (fun _ h => h) rfl dX10_readInto_100 ?_
            refine lv_iload_n hx hb dX10_readInto_103 rfl (lv_at hl 1 rfl) ?_
            refine va_put (D := D) (ci := 9) (v := .int (iZ 1)) (ty := .boolean) (C := RX9) (T := TX9) (N := 8) hx hb hts iX9 tyX9 tyX9_ok nmX9 hown hK hP hD hS 7 rfl rfl 5 (bl rfl) (hts _ qf_X10_55) (fun _ h => h) rfl (by decide +kernel) rfl rfl (Nat.le_of_ble_eq_true rfl) dX10_readInto_104 (fun H locs hP hD hS => ?_)
            refine lv_iload_n hx hb dX10_readInto_107 rfl (lv_at hl 1 rfl) ?_
            have hd0 : de3 = 0 := (by omega)
            have hend0 := hend
            have hS0 := hS3
            have hV0 := hV3
            rw [hd0] at hend0 hS0 hV0
            exact EWz hx hb hr hlocks hS ((1, pl3, en3, ki3, va3, ke3, fk3, fp3, 1, de3, ys3, yr3), (0, nm3), (of03, ywf3, y1f3, y2f3, y3f3, ypf3), ()) rfl rfl ⟨(show (0 ≤ tp ∧ tp ≤ 900) ∧ (0 ≤ ln ∧ ln ≤ 900) ∧ (0 ≤ pl3 ∧ pl3 ≤ en3) ∧ (en3 ≤ ln) ∧ (0 ≤ ki3 ∧ ki3 ≤ 4) ∧ (-2147483648 ≤ va3 ∧ va3 < 2147483648) ∧ (-1 ≤ ke3 ∧ ke3 ≤ 24) from (by first | with_reducible assumption | exact ⟨⟨by omega, by omega⟩, ⟨by omega, by omega⟩, ⟨by omega, by omega⟩, by omega, ⟨by omega, by omega⟩, ⟨by omega, by omega⟩, by omega, by omega⟩)), (show 1 = 0 ∨ 1 = 1 from (by omega)), (show 1 = 1 from (by omega)), (show ((1 : Int) = 1 ∧ ∃ W9 A9 B9 C9 P9 O9 : Int → Int, xYrs (tX bf ln) N n = .inr (yr3, ys3, 0, W9, A9, B9, C9, P9, O9) ∧ YSY yr3 0 ywf3 y1f3 y2f3 y3f3 ypf3 of03 W9 A9 B9 C9 P9 O9 ∧ YV_ n (yr3, ys3, 0, W9, A9, B9, C9, P9, O9) ∧ fk3 = fk ∧ fp3 = fp) ∨ ((1 : Int) = 0 ∧ xYrs (tX bf ln) N n = .inl (fk3, fp3)) from (Or.inl ⟨rfl, cW, cA, cB, cC, cP, cO, xYrs_ok hend0 (by show ¬ (0 : Int) < 0; omega), hS0, hV0, by omega, by omega⟩))⟩ (hP.sub [0, 1, 2, 3, 4, 7, 8, 9, 10, 11, 12, 5, 6] rfl) (hD.sub [0, 1, 2, 3, 4, 7, 8, 9, 10, 11, 12, 5, 6] rfl rfl) dX10_readInto_108
          ·
            have c_7 := mt (zle (x := iZ de3) (y := iZ 0) rfl rfl ⟨by omega, by omega⟩ wn_0).mpr c_7
            refine lv_aload_n hx hb dX10_readInto_90 rfl (lv_at hl 2 rfl) ?_
            refine va_get (D := D) (ci := 10) (v := .ref hr1) (C := RX10) (T := TX10) (N := 5) hx hb hts iX10 hown hK hP 0 rfl rfl 0 (bl rfl) (hts _ qf_X10_15) (fun _ h => h) rfl dX10_readInto_91 ?_
            refine lv_iconst (v := iZ 2) hx hb dX10_readInto_94 rfl ?_
            refine CWV (As := [.int (iZ 2)]) (rest := []) (wc := _) (wr := [(hv, .inr (10, [.ref hr1, .ref oo, .int (iZ de3), .ref hy, .ref hs])), (oo, .inl (k 1, 3, .inl of03)), (hs, .inr (5, [.ref hN, .ref hf, .ref hg, .int (iZ n), .int (iZ ni), .int (iZ lw), .int (iZ we)])), (hN, .inl (k 2, 6, .inr (.inl nf))), (hy, .inr (9, [.ref yw, .ref y1, .ref y2, .ref y3, .ref yp, .int (iZ 0), .int (iZ ys3), .int (iZ yr3)])), (yw, .inl (k 1, 60, .inl ywf3)), (y1, .inl (k 1, 60, .inl y1f3)), (y2, .inl (k 1, 60, .inl y2f3)), (y3, .inl (k 1, 60, .inl y3f3)), (yp, .inl (k 1, 60, .inl ypf3))]) hx hb hml hown hts hKK hP hD hS hA (x_fail l D k hr1 tx kw tp ln pl3 en3 ki3 va3 ke3 fk3 fp3 nm3 bf kwf cp 2 (by first | with_reducible assumption | exact ⟨⟨by omega, by omega⟩, ⟨by omega, by omega⟩, ⟨by omega, by omega⟩, by omega, ⟨by omega, by omega⟩, ⟨by omega, by omega⟩, by omega, by omega⟩) hx3) ci_X4_fail qm_X10_51 ⟨Nat.le_of_ble_eq_true rfl, Nat.le_of_ble_eq_true rfl⟩ ⟨Nat.le_of_ble_eq_true rfl, Nat.le_of_ble_eq_true rfl⟩ [2, 3, 4] [0, 1, 5, 6, 7, 8, 9, 10, 11, 12] rfl rfl rfl rfl rfl (dj rfl) 0 rfl rfl rfl hl.1 rfl (Nat.le_of_ble_eq_true rfl) dX10_readInto_95 (fun u_8 H locs hφ hP hD hS => ?_)
            have p_9 : u_8.1.2.1 = xFl (tX bf ln) cp 2 ∧ u_8.1.2.2 = xPl (tX bf ln) cp := hφ
            refine W.eq (g2 := F0 m 98 ls [.int (iZ 0)]) rfl ?_
            refine lv_istore_n (lv' := [(3, .int (iZ 0)), (4, .int (iZ i)), (0, .ref hv), (1, .ref hy), (2, .ref hs)]) hx hb dX10_readInto_98 rfl hl (bl rfl) rfl (fun ls hl => ?_)
            refine lv_aload_n hx hb dX10_readInto_99 rfl (lv_at hl 2 rfl) ?_
            refine va_get (D := D) (ci := 10) (v := .ref hy) (C := RX10) (T := TX10) (N := 5) hx hb hts iX10 hown hK hP 0 rfl rfl 3 (bl rfl) (hts _ qf_X10_19) (fun _ h => h) rfl dX10_readInto_100 ?_
            refine lv_iload_n hx hb dX10_readInto_103 rfl (lv_at hl 0 rfl) ?_
            refine va_put (D := D) (ci := 9) (v := .int (iZ 0)) (ty := .boolean) (C := RX9) (T := TX9) (N := 8) hx hb hts iX9 tyX9 tyX9_ok nmX9 hown hK hP hD hS 4 rfl rfl 5 (bl rfl) (hts _ qf_X10_55) (fun _ h => h) rfl (by decide +kernel) rfl rfl (Nat.le_of_ble_eq_true rfl) dX10_readInto_104 (fun H locs hP hD hS => ?_)
            refine lv_iload_n hx hb dX10_readInto_107 rfl (lv_at hl 0 rfl) ?_
            exact EWz hx hb hr hlocks hS ((0, pl3, en3, ki3, va3, ke3, u_8.1.2.1, u_8.1.2.2, 0, de3, ys3, yr3), (0, nm3), (of03, ywf3, y1f3, y2f3, y3f3, ypf3), ()) rfl rfl ⟨(show (0 ≤ tp ∧ tp ≤ 900) ∧ (0 ≤ ln ∧ ln ≤ 900) ∧ (0 ≤ pl3 ∧ pl3 ≤ en3) ∧ (en3 ≤ ln) ∧ (0 ≤ ki3 ∧ ki3 ≤ 4) ∧ (-2147483648 ≤ va3 ∧ va3 < 2147483648) ∧ (-1 ≤ ke3 ∧ ke3 ≤ 24) from (by first | with_reducible assumption | exact ⟨⟨by omega, by omega⟩, ⟨by omega, by omega⟩, ⟨by omega, by omega⟩, by omega, ⟨by omega, by omega⟩, ⟨by omega, by omega⟩, by omega, by omega⟩)), (show 0 = 0 ∨ 0 = 1 from (by omega)), (show 0 = 0 from (by omega)), (show ((0 : Int) = 1 ∧ ∃ W9 A9 B9 C9 P9 O9 : Int → Int, xYrs (tX bf ln) N n = .inr (yr3, ys3, 0, W9, A9, B9, C9, P9, O9) ∧ YSY yr3 0 ywf3 y1f3 y2f3 y3f3 ypf3 of03 W9 A9 B9 C9 P9 O9 ∧ YV_ n (yr3, ys3, 0, W9, A9, B9, C9, P9, O9) ∧ u_8.1.2.1 = fk ∧ u_8.1.2.2 = fp) ∨ ((0 : Int) = 0 ∧ xYrs (tX bf ln) N n = .inl (u_8.1.2.1, u_8.1.2.2)) from (Or.inr ⟨rfl, xYrs_d hend (by show 0 < de3; omega) p_9⟩))⟩ (hP.sub [0, 1, 10, 11, 12, 4, 5, 6, 7, 8, 9, 2, 3] rfl) (hD.sub [0, 1, 10, 11, 12, 4, 5, 6, 7, 8, 9, 2, 3] rfl rfl) dX10_readInto_108
      ·
        have c_3 := mt (zlt (x := iZ 300) (y := iZ i) rfl rfl wn_300 ⟨by omega, by omega⟩).mpr c_3
        refine lv_iload_n hx hb dX10_readInto_35 rfl (lv_at hl 1 rfl) ?_
        refine lv_if_eq (tgt := 79) hx hb dX10_readInto_36 rfl (fun c_10 => ?_) (fun c_10 => ?_)
        ·
          have c_10 := (zeq (x := iZ fi) (y := iZ 0) rfl rfl ⟨by omega, by omega⟩ wn_0).mp c_10
          rcases hfi with rfl | rfl
          ·
            have hflt : xYa (tX bf ln) N n 1000 0 yS0 = .inl (fk3, fp3) := by rw [← hp0]; exact h0 rfl
            refine lv_iload_n hx hb dX10_readInto_79 rfl (lv_at hl 1 rfl) ?_
            refine lv_if_eq (tgt := 99) hx hb dX10_readInto_80 rfl (fun _ => ?_) (fun c => absurd (by decide) c)
            refine lv_aload_n hx hb dX10_readInto_99 rfl (lv_at hl 2 rfl) ?_
            refine va_get (D := D) (ci := 10) (v := .ref hy) (C := RX10) (T := TX10) (N := 5) hx hb hts iX10 hown hK hP 0 rfl rfl 3 (bl rfl) (hts _ qf_X10_19) (fun _ h => h) rfl dX10_readInto_100 ?_
            refine lv_iload_n hx hb dX10_readInto_103 rfl (lv_at hl 1 rfl) ?_
            refine va_put (D := D) (ci := 9) (v := .int (iZ 0)) (ty := .boolean) (C := RX9) (T := TX9) (N := 8) hx hb hts iX9 tyX9 tyX9_ok nmX9 hown hK hP hD hS 7 rfl rfl 5 (bl rfl) (hts _ qf_X10_55) (fun _ h => h) rfl (by decide +kernel) rfl rfl (Nat.le_of_ble_eq_true rfl) dX10_readInto_104 (fun H locs hP hD hS => ?_)
            refine lv_iload_n hx hb dX10_readInto_107 rfl (lv_at hl 1 rfl) ?_
            exact EWz hx hb hr hlocks hS ((0, pl3, en3, ki3, va3, ke3, fk3, fp3, 0, de3, ys3, yr3), (0, nm3), (of03, ywf3, y1f3, y2f3, y3f3, ypf3), ()) rfl rfl ⟨(show (0 ≤ tp ∧ tp ≤ 900) ∧ (0 ≤ ln ∧ ln ≤ 900) ∧ (0 ≤ pl3 ∧ pl3 ≤ en3) ∧ (en3 ≤ ln) ∧ (0 ≤ ki3 ∧ ki3 ≤ 4) ∧ (-2147483648 ≤ va3 ∧ va3 < 2147483648) ∧ (-1 ≤ ke3 ∧ ke3 ≤ 24) from (by first | with_reducible assumption | exact ⟨⟨by omega, by omega⟩, ⟨by omega, by omega⟩, ⟨by omega, by omega⟩, by omega, ⟨by omega, by omega⟩, ⟨by omega, by omega⟩, by omega, by omega⟩)), (show 0 = 0 ∨ 0 = 1 from (by omega)), (show 0 = 0 from (by omega)), (show ((0 : Int) = 1 ∧ ∃ W9 A9 B9 C9 P9 O9 : Int → Int, xYrs (tX bf ln) N n = .inr (yr3, ys3, 0, W9, A9, B9, C9, P9, O9) ∧ YSY yr3 0 ywf3 y1f3 y2f3 y3f3 ypf3 of03 W9 A9 B9 C9 P9 O9 ∧ YV_ n (yr3, ys3, 0, W9, A9, B9, C9, P9, O9) ∧ fk3 = fk ∧ fp3 = fp) ∨ ((0 : Int) = 0 ∧ xYrs (tX bf ln) N n = .inl (fk3, fp3)) from (Or.inr ⟨rfl, xYrs_l hflt⟩))⟩ (hP.sub [0, 1, 2, 3, 4, 7, 8, 9, 10, 11, 12, 5, 6] rfl) (hD.sub [0, 1, 2, 3, 4, 7, 8, 9, 10, 11, 12, 5, 6] rfl rfl) dX10_readInto_108
          ·
            obtain ⟨hS3, hV3, hx3, hA3, hi3, hk3, hp3⟩ := h1 rfl
            obtain ⟨⟨ar_12, br_12⟩, cr_12, dr_12, er_12, fr_12, gr_12, hr_12⟩ := id hx3
            obtain ⟨⟨v1, v2, v3, v4, v0⟩, v5, v6, v7, v8, v9⟩ := id hV3
            have hend : xYa (tX bf ln) N n 1000 0 yS0 = .inr (cp, (yr3, ys3, de3, cW, cA, cB, cC, cP, cO)) := by rw [← hp0]; exact xYa_end (i := i) ⟨by omega, by omega⟩ hA3 (by omega)
            refine lv_iload_n hx hb dX10_readInto_79 rfl (lv_at hl 1 rfl) ?_
            refine lv_if_eq (tgt := 99) hx hb dX10_readInto_80 rfl (fun c => absurd c (by decide)) (fun _ => ?_)
            refine lv_aload_n hx hb dX10_readInto_83 rfl (lv_at hl 2 rfl) ?_
            refine va_get (D := D) (ci := 10) (v := .int (iZ de3)) (C := RX10) (T := TX10) (N := 5) hx hb hts iX10 hown hK hP 0 rfl rfl 2 (bl rfl) (hts _ qf_X10_32) (fun _ h => h) rfl dX10_readInto_84 ?_
            refine lv_if_le (tgt := 99) hx hb dX10_readInto_87 rfl (fun c_14 => ?_) (fun c_14 => ?_)
            ·
              have c_14 := (zle (x := iZ de3) (y := iZ 0) rfl rfl ⟨by omega, by omega⟩ wn_0).mp c_14
              refine lv_aload_n hx hb dX10_readInto_99 rfl (lv_at hl 2 rfl) ?_
              refine va_get (D := D) (ci := 10) (v := .ref hy) (C := RX10) (T := TX10) (N := 5) hx hb hts iX10 hown hK hP 0 rfl rfl 3 (bl rfl) (hts _ qf_X10_19) (fun _ h => h) rfl dX10_readInto_100 ?_
              refine lv_iload_n hx hb dX10_readInto_103 rfl (lv_at hl 1 rfl) ?_
              refine va_put (D := D) (ci := 9) (v := .int (iZ 1)) (ty := .boolean) (C := RX9) (T := TX9) (N := 8) hx hb hts iX9 tyX9 tyX9_ok nmX9 hown hK hP hD hS 7 rfl rfl 5 (bl rfl) (hts _ qf_X10_55) (fun _ h => h) rfl (by decide +kernel) rfl rfl (Nat.le_of_ble_eq_true rfl) dX10_readInto_104 (fun H locs hP hD hS => ?_)
              refine lv_iload_n hx hb dX10_readInto_107 rfl (lv_at hl 1 rfl) ?_
              have hd0 : de3 = 0 := (by omega)
              have hend0 := hend
              have hS0 := hS3
              have hV0 := hV3
              rw [hd0] at hend0 hS0 hV0
              exact EWz hx hb hr hlocks hS ((1, pl3, en3, ki3, va3, ke3, fk3, fp3, 1, de3, ys3, yr3), (0, nm3), (of03, ywf3, y1f3, y2f3, y3f3, ypf3), ()) rfl rfl ⟨(show (0 ≤ tp ∧ tp ≤ 900) ∧ (0 ≤ ln ∧ ln ≤ 900) ∧ (0 ≤ pl3 ∧ pl3 ≤ en3) ∧ (en3 ≤ ln) ∧ (0 ≤ ki3 ∧ ki3 ≤ 4) ∧ (-2147483648 ≤ va3 ∧ va3 < 2147483648) ∧ (-1 ≤ ke3 ∧ ke3 ≤ 24) from (by first | with_reducible assumption | exact ⟨⟨by omega, by omega⟩, ⟨by omega, by omega⟩, ⟨by omega, by omega⟩, by omega, ⟨by omega, by omega⟩, ⟨by omega, by omega⟩, by omega, by omega⟩)), (show 1 = 0 ∨ 1 = 1 from (by omega)), (show 1 = 1 from (by omega)), (show ((1 : Int) = 1 ∧ ∃ W9 A9 B9 C9 P9 O9 : Int → Int, xYrs (tX bf ln) N n = .inr (yr3, ys3, 0, W9, A9, B9, C9, P9, O9) ∧ YSY yr3 0 ywf3 y1f3 y2f3 y3f3 ypf3 of03 W9 A9 B9 C9 P9 O9 ∧ YV_ n (yr3, ys3, 0, W9, A9, B9, C9, P9, O9) ∧ fk3 = fk ∧ fp3 = fp) ∨ ((1 : Int) = 0 ∧ xYrs (tX bf ln) N n = .inl (fk3, fp3)) from (Or.inl ⟨rfl, cW, cA, cB, cC, cP, cO, xYrs_ok hend0 (by show ¬ (0 : Int) < 0; omega), hS0, hV0, by omega, by omega⟩))⟩ (hP.sub [0, 1, 2, 3, 4, 7, 8, 9, 10, 11, 12, 5, 6] rfl) (hD.sub [0, 1, 2, 3, 4, 7, 8, 9, 10, 11, 12, 5, 6] rfl rfl) dX10_readInto_108
            ·
              have c_14 := mt (zle (x := iZ de3) (y := iZ 0) rfl rfl ⟨by omega, by omega⟩ wn_0).mpr c_14
              refine lv_aload_n hx hb dX10_readInto_90 rfl (lv_at hl 2 rfl) ?_
              refine va_get (D := D) (ci := 10) (v := .ref hr1) (C := RX10) (T := TX10) (N := 5) hx hb hts iX10 hown hK hP 0 rfl rfl 0 (bl rfl) (hts _ qf_X10_15) (fun _ h => h) rfl dX10_readInto_91 ?_
              refine lv_iconst (v := iZ 2) hx hb dX10_readInto_94 rfl ?_
              refine CWV (As := [.int (iZ 2)]) (rest := []) (wc := _) (wr := [(hv, .inr (10, [.ref hr1, .ref oo, .int (iZ de3), .ref hy, .ref hs])), (oo, .inl (k 1, 3, .inl of03)), (hs, .inr (5, [.ref hN, .ref hf, .ref hg, .int (iZ n), .int (iZ ni), .int (iZ lw), .int (iZ we)])), (hN, .inl (k 2, 6, .inr (.inl nf))), (hy, .inr (9, [.ref yw, .ref y1, .ref y2, .ref y3, .ref yp, .int (iZ 0), .int (iZ ys3), .int (iZ yr3)])), (yw, .inl (k 1, 60, .inl ywf3)), (y1, .inl (k 1, 60, .inl y1f3)), (y2, .inl (k 1, 60, .inl y2f3)), (y3, .inl (k 1, 60, .inl y3f3)), (yp, .inl (k 1, 60, .inl ypf3))]) hx hb hml hown hts hKK hP hD hS hA (x_fail l D k hr1 tx kw tp ln pl3 en3 ki3 va3 ke3 fk3 fp3 nm3 bf kwf cp 2 (by first | with_reducible assumption | exact ⟨⟨by omega, by omega⟩, ⟨by omega, by omega⟩, ⟨by omega, by omega⟩, by omega, ⟨by omega, by omega⟩, ⟨by omega, by omega⟩, by omega, by omega⟩) hx3) ci_X4_fail qm_X10_51 ⟨Nat.le_of_ble_eq_true rfl, Nat.le_of_ble_eq_true rfl⟩ ⟨Nat.le_of_ble_eq_true rfl, Nat.le_of_ble_eq_true rfl⟩ [2, 3, 4] [0, 1, 5, 6, 7, 8, 9, 10, 11, 12] rfl rfl rfl rfl rfl (dj rfl) 0 rfl rfl rfl hl.1 rfl (Nat.le_of_ble_eq_true rfl) dX10_readInto_95 (fun u_15 H locs hφ hP hD hS => ?_)
              have p_16 : u_15.1.2.1 = xFl (tX bf ln) cp 2 ∧ u_15.1.2.2 = xPl (tX bf ln) cp := hφ
              refine W.eq (g2 := F0 m 98 ls [.int (iZ 0)]) rfl ?_
              refine lv_istore_n (lv' := [(3, .int (iZ 0)), (4, .int (iZ i)), (0, .ref hv), (1, .ref hy), (2, .ref hs)]) hx hb dX10_readInto_98 rfl hl (bl rfl) rfl (fun ls hl => ?_)
              refine lv_aload_n hx hb dX10_readInto_99 rfl (lv_at hl 2 rfl) ?_
              refine va_get (D := D) (ci := 10) (v := .ref hy) (C := RX10) (T := TX10) (N := 5) hx hb hts iX10 hown hK hP 0 rfl rfl 3 (bl rfl) (hts _ qf_X10_19) (fun _ h => h) rfl dX10_readInto_100 ?_
              refine lv_iload_n hx hb dX10_readInto_103 rfl (lv_at hl 0 rfl) ?_
              refine va_put (D := D) (ci := 9) (v := .int (iZ 0)) (ty := .boolean) (C := RX9) (T := TX9) (N := 8) hx hb hts iX9 tyX9 tyX9_ok nmX9 hown hK hP hD hS 4 rfl rfl 5 (bl rfl) (hts _ qf_X10_55) (fun _ h => h) rfl (by decide +kernel) rfl rfl (Nat.le_of_ble_eq_true rfl) dX10_readInto_104 (fun H locs hP hD hS => ?_)
              refine lv_iload_n hx hb dX10_readInto_107 rfl (lv_at hl 0 rfl) ?_
              exact EWz hx hb hr hlocks hS ((0, pl3, en3, ki3, va3, ke3, u_15.1.2.1, u_15.1.2.2, 0, de3, ys3, yr3), (0, nm3), (of03, ywf3, y1f3, y2f3, y3f3, ypf3), ()) rfl rfl ⟨(show (0 ≤ tp ∧ tp ≤ 900) ∧ (0 ≤ ln ∧ ln ≤ 900) ∧ (0 ≤ pl3 ∧ pl3 ≤ en3) ∧ (en3 ≤ ln) ∧ (0 ≤ ki3 ∧ ki3 ≤ 4) ∧ (-2147483648 ≤ va3 ∧ va3 < 2147483648) ∧ (-1 ≤ ke3 ∧ ke3 ≤ 24) from (by first | with_reducible assumption | exact ⟨⟨by omega, by omega⟩, ⟨by omega, by omega⟩, ⟨by omega, by omega⟩, by omega, ⟨by omega, by omega⟩, ⟨by omega, by omega⟩, by omega, by omega⟩)), (show 0 = 0 ∨ 0 = 1 from (by omega)), (show 0 = 0 from (by omega)), (show ((0 : Int) = 1 ∧ ∃ W9 A9 B9 C9 P9 O9 : Int → Int, xYrs (tX bf ln) N n = .inr (yr3, ys3, 0, W9, A9, B9, C9, P9, O9) ∧ YSY yr3 0 ywf3 y1f3 y2f3 y3f3 ypf3 of03 W9 A9 B9 C9 P9 O9 ∧ YV_ n (yr3, ys3, 0, W9, A9, B9, C9, P9, O9) ∧ u_15.1.2.1 = fk ∧ u_15.1.2.2 = fp) ∨ ((0 : Int) = 0 ∧ xYrs (tX bf ln) N n = .inl (u_15.1.2.1, u_15.1.2.2)) from (Or.inr ⟨rfl, xYrs_d hend (by show 0 < de3; omega) p_16⟩))⟩ (hP.sub [0, 1, 10, 11, 12, 4, 5, 6, 7, 8, 9, 2, 3] rfl) (hD.sub [0, 1, 10, 11, 12, 4, 5, 6, 7, 8, 9, 2, 3] rfl rfl) dX10_readInto_108
        ·
          have c_10 := mt (zeq (x := iZ fi) (y := iZ 0) rfl rfl ⟨by omega, by omega⟩ wn_0).mpr c_10
          obtain ⟨hS3, hV3, hx3, hA3, hi3, hk3, hp3⟩ := h1 (by omega)
          obtain ⟨⟨ar_17, br_17⟩, cr_17, dr_17, er_17, fr_17, gr_17, hr_17⟩ := id hx3
          obtain ⟨⟨v1, v2, v3, v4, v0⟩, v5, v6, v7, v8, v9⟩ := id hV3
          refine lv_aload_n hx hb dX10_readInto_39 rfl (lv_at hl 2 rfl) ?_
          refine va_get (D := D) (ci := 10) (v := .ref hr1) (C := RX10) (T := TX10) (N := 5) hx hb hts iX10 hown hK hP 0 rfl rfl 0 (bl rfl) (hts _ qf_X10_15) (fun _ h => h) rfl dX10_readInto_40 ?_
          refine CPV (As := []) (rest := []) hx hb hml hown hts hKK (hP.sub (ws' := [(hr1, .inr (4, [.ref tx, .ref kw, .int (iZ tp), .int (iZ ln), .int (iZ pl3), .int (iZ en3), .int (iZ ki3), .int (iZ va3), .int (iZ ke3), .long nm3, .int (iZ fk3), .int (iZ fp3)]))]) [2] rfl) (k_isAtEnd l D k hr1 [.ref tx, .ref kw, .int (iZ tp), .int (iZ ln), .int (iZ pl3), .int (iZ en3), .int (iZ ki3), .int (iZ va3), .int (iZ ke3), .long nm3, .int (iZ fk3), .int (iZ fp3)] ki3 rfl ⟨by omega, by omega⟩) ci_X4_isAtEnd qm_X10_36 ⟨Nat.le_of_ble_eq_true rfl, Nat.le_of_ble_eq_true rfl⟩ ⟨Nat.le_of_ble_eq_true rfl, Nat.le_of_ble_eq_true rfl⟩ 0 rfl rfl rfl hl.1 rfl (Nat.le_of_ble_eq_true rfl) dX10_readInto_43 (fun z_18 hz_18 => ?_)
          refine lv_if_ne (tgt := 79) hx hb dX10_readInto_46 rfl (fun c_19 => ?_) (fun c_19 => ?_)
          ·
            have c_19 := mt (zeq (x := iZ z_18) (y := iZ 0) rfl rfl ⟨by omega, by omega⟩ wn_0).mpr c_19
            rcases hfi with rfl | rfl
            ·
              have hflt : xYa (tX bf ln) N n 1000 0 yS0 = .inl (fk3, fp3) := by rw [← hp0]; exact h0 rfl
              refine lv_iload_n hx hb dX10_readInto_79 rfl (lv_at hl 1 rfl) ?_
              refine lv_if_eq (tgt := 99) hx hb dX10_readInto_80 rfl (fun _ => ?_) (fun c => absurd (by decide) c)
              refine lv_aload_n hx hb dX10_readInto_99 rfl (lv_at hl 2 rfl) ?_
              refine va_get (D := D) (ci := 10) (v := .ref hy) (C := RX10) (T := TX10) (N := 5) hx hb hts iX10 hown hK hP 0 rfl rfl 3 (bl rfl) (hts _ qf_X10_19) (fun _ h => h) rfl dX10_readInto_100 ?_
              refine lv_iload_n hx hb dX10_readInto_103 rfl (lv_at hl 1 rfl) ?_
              refine va_put (D := D) (ci := 9) (v := .int (iZ 0)) (ty := .boolean) (C := RX9) (T := TX9) (N := 8) hx hb hts iX9 tyX9 tyX9_ok nmX9 hown hK hP hD hS 7 rfl rfl 5 (bl rfl) (hts _ qf_X10_55) (fun _ h => h) rfl (by decide +kernel) rfl rfl (Nat.le_of_ble_eq_true rfl) dX10_readInto_104 (fun H locs hP hD hS => ?_)
              refine lv_iload_n hx hb dX10_readInto_107 rfl (lv_at hl 1 rfl) ?_
              exact EWz hx hb hr hlocks hS ((0, pl3, en3, ki3, va3, ke3, fk3, fp3, 0, de3, ys3, yr3), (0, nm3), (of03, ywf3, y1f3, y2f3, y3f3, ypf3), ()) rfl rfl ⟨(show (0 ≤ tp ∧ tp ≤ 900) ∧ (0 ≤ ln ∧ ln ≤ 900) ∧ (0 ≤ pl3 ∧ pl3 ≤ en3) ∧ (en3 ≤ ln) ∧ (0 ≤ ki3 ∧ ki3 ≤ 4) ∧ (-2147483648 ≤ va3 ∧ va3 < 2147483648) ∧ (-1 ≤ ke3 ∧ ke3 ≤ 24) from (by first | with_reducible assumption | exact ⟨⟨by omega, by omega⟩, ⟨by omega, by omega⟩, ⟨by omega, by omega⟩, by omega, ⟨by omega, by omega⟩, ⟨by omega, by omega⟩, by omega, by omega⟩)), (show 0 = 0 ∨ 0 = 1 from (by omega)), (show 0 = 0 from (by omega)), (show ((0 : Int) = 1 ∧ ∃ W9 A9 B9 C9 P9 O9 : Int → Int, xYrs (tX bf ln) N n = .inr (yr3, ys3, 0, W9, A9, B9, C9, P9, O9) ∧ YSY yr3 0 ywf3 y1f3 y2f3 y3f3 ypf3 of03 W9 A9 B9 C9 P9 O9 ∧ YV_ n (yr3, ys3, 0, W9, A9, B9, C9, P9, O9) ∧ fk3 = fk ∧ fp3 = fp) ∨ ((0 : Int) = 0 ∧ xYrs (tX bf ln) N n = .inl (fk3, fp3)) from (Or.inr ⟨rfl, xYrs_l hflt⟩))⟩ (hP.sub [0, 1, 2, 3, 4, 7, 8, 9, 10, 11, 12, 5, 6] rfl) (hD.sub [0, 1, 2, 3, 4, 7, 8, 9, 10, 11, 12, 5, 6] rfl rfl) dX10_readInto_108
            ·
              obtain ⟨hS3, hV3, hx3, hA3, hi3, hk3, hp3⟩ := h1 rfl
              obtain ⟨⟨ar_21, br_21⟩, cr_21, dr_21, er_21, fr_21, gr_21, hr_21⟩ := id hx3
              obtain ⟨⟨v1, v2, v3, v4, v0⟩, v5, v6, v7, v8, v9⟩ := id hV3
              have hend : xYa (tX bf ln) N n 1000 0 yS0 = .inr (cp, (yr3, ys3, de3, cW, cA, cB, cC, cP, cO)) := by rw [← hp0]; exact xYa_end (i := i) ⟨by omega, by omega⟩ hA3 (by omega)
              refine lv_iload_n hx hb dX10_readInto_79 rfl (lv_at hl 1 rfl) ?_
              refine lv_if_eq (tgt := 99) hx hb dX10_readInto_80 rfl (fun c => absurd c (by decide)) (fun _ => ?_)
              refine lv_aload_n hx hb dX10_readInto_83 rfl (lv_at hl 2 rfl) ?_
              refine va_get (D := D) (ci := 10) (v := .int (iZ de3)) (C := RX10) (T := TX10) (N := 5) hx hb hts iX10 hown hK hP 0 rfl rfl 2 (bl rfl) (hts _ qf_X10_32) (fun _ h => h) rfl dX10_readInto_84 ?_
              refine lv_if_le (tgt := 99) hx hb dX10_readInto_87 rfl (fun c_23 => ?_) (fun c_23 => ?_)
              ·
                have c_23 := (zle (x := iZ de3) (y := iZ 0) rfl rfl ⟨by omega, by omega⟩ wn_0).mp c_23
                refine lv_aload_n hx hb dX10_readInto_99 rfl (lv_at hl 2 rfl) ?_
                refine va_get (D := D) (ci := 10) (v := .ref hy) (C := RX10) (T := TX10) (N := 5) hx hb hts iX10 hown hK hP 0 rfl rfl 3 (bl rfl) (hts _ qf_X10_19) (fun _ h => h) rfl dX10_readInto_100 ?_
                refine lv_iload_n hx hb dX10_readInto_103 rfl (lv_at hl 1 rfl) ?_
                refine va_put (D := D) (ci := 9) (v := .int (iZ 1)) (ty := .boolean) (C := RX9) (T := TX9) (N := 8) hx hb hts iX9 tyX9 tyX9_ok nmX9 hown hK hP hD hS 7 rfl rfl 5 (bl rfl) (hts _ qf_X10_55) (fun _ h => h) rfl (by decide +kernel) rfl rfl (Nat.le_of_ble_eq_true rfl) dX10_readInto_104 (fun H locs hP hD hS => ?_)
                refine lv_iload_n hx hb dX10_readInto_107 rfl (lv_at hl 1 rfl) ?_
                have hd0 : de3 = 0 := (by omega)
                have hend0 := hend
                have hS0 := hS3
                have hV0 := hV3
                rw [hd0] at hend0 hS0 hV0
                exact EWz hx hb hr hlocks hS ((1, pl3, en3, ki3, va3, ke3, fk3, fp3, 1, de3, ys3, yr3), (0, nm3), (of03, ywf3, y1f3, y2f3, y3f3, ypf3), ()) rfl rfl ⟨(show (0 ≤ tp ∧ tp ≤ 900) ∧ (0 ≤ ln ∧ ln ≤ 900) ∧ (0 ≤ pl3 ∧ pl3 ≤ en3) ∧ (en3 ≤ ln) ∧ (0 ≤ ki3 ∧ ki3 ≤ 4) ∧ (-2147483648 ≤ va3 ∧ va3 < 2147483648) ∧ (-1 ≤ ke3 ∧ ke3 ≤ 24) from (by first | with_reducible assumption | exact ⟨⟨by omega, by omega⟩, ⟨by omega, by omega⟩, ⟨by omega, by omega⟩, by omega, ⟨by omega, by omega⟩, ⟨by omega, by omega⟩, by omega, by omega⟩)), (show 1 = 0 ∨ 1 = 1 from (by omega)), (show 1 = 1 from (by omega)), (show ((1 : Int) = 1 ∧ ∃ W9 A9 B9 C9 P9 O9 : Int → Int, xYrs (tX bf ln) N n = .inr (yr3, ys3, 0, W9, A9, B9, C9, P9, O9) ∧ YSY yr3 0 ywf3 y1f3 y2f3 y3f3 ypf3 of03 W9 A9 B9 C9 P9 O9 ∧ YV_ n (yr3, ys3, 0, W9, A9, B9, C9, P9, O9) ∧ fk3 = fk ∧ fp3 = fp) ∨ ((1 : Int) = 0 ∧ xYrs (tX bf ln) N n = .inl (fk3, fp3)) from (Or.inl ⟨rfl, cW, cA, cB, cC, cP, cO, xYrs_ok hend0 (by show ¬ (0 : Int) < 0; omega), hS0, hV0, by omega, by omega⟩))⟩ (hP.sub [0, 1, 2, 3, 4, 7, 8, 9, 10, 11, 12, 5, 6] rfl) (hD.sub [0, 1, 2, 3, 4, 7, 8, 9, 10, 11, 12, 5, 6] rfl rfl) dX10_readInto_108
              ·
                have c_23 := mt (zle (x := iZ de3) (y := iZ 0) rfl rfl ⟨by omega, by omega⟩ wn_0).mpr c_23
                refine lv_aload_n hx hb dX10_readInto_90 rfl (lv_at hl 2 rfl) ?_
                refine va_get (D := D) (ci := 10) (v := .ref hr1) (C := RX10) (T := TX10) (N := 5) hx hb hts iX10 hown hK hP 0 rfl rfl 0 (bl rfl) (hts _ qf_X10_15) (fun _ h => h) rfl dX10_readInto_91 ?_
                refine lv_iconst (v := iZ 2) hx hb dX10_readInto_94 rfl ?_
                refine CWV (As := [.int (iZ 2)]) (rest := []) (wc := _) (wr := [(hv, .inr (10, [.ref hr1, .ref oo, .int (iZ de3), .ref hy, .ref hs])), (oo, .inl (k 1, 3, .inl of03)), (hs, .inr (5, [.ref hN, .ref hf, .ref hg, .int (iZ n), .int (iZ ni), .int (iZ lw), .int (iZ we)])), (hN, .inl (k 2, 6, .inr (.inl nf))), (hy, .inr (9, [.ref yw, .ref y1, .ref y2, .ref y3, .ref yp, .int (iZ 0), .int (iZ ys3), .int (iZ yr3)])), (yw, .inl (k 1, 60, .inl ywf3)), (y1, .inl (k 1, 60, .inl y1f3)), (y2, .inl (k 1, 60, .inl y2f3)), (y3, .inl (k 1, 60, .inl y3f3)), (yp, .inl (k 1, 60, .inl ypf3))]) hx hb hml hown hts hKK hP hD hS hA (x_fail l D k hr1 tx kw tp ln pl3 en3 ki3 va3 ke3 fk3 fp3 nm3 bf kwf cp 2 (by first | with_reducible assumption | exact ⟨⟨by omega, by omega⟩, ⟨by omega, by omega⟩, ⟨by omega, by omega⟩, by omega, ⟨by omega, by omega⟩, ⟨by omega, by omega⟩, by omega, by omega⟩) hx3) ci_X4_fail qm_X10_51 ⟨Nat.le_of_ble_eq_true rfl, Nat.le_of_ble_eq_true rfl⟩ ⟨Nat.le_of_ble_eq_true rfl, Nat.le_of_ble_eq_true rfl⟩ [2, 3, 4] [0, 1, 5, 6, 7, 8, 9, 10, 11, 12] rfl rfl rfl rfl rfl (dj rfl) 0 rfl rfl rfl hl.1 rfl (Nat.le_of_ble_eq_true rfl) dX10_readInto_95 (fun u_24 H locs hφ hP hD hS => ?_)
                have p_25 : u_24.1.2.1 = xFl (tX bf ln) cp 2 ∧ u_24.1.2.2 = xPl (tX bf ln) cp := hφ
                refine W.eq (g2 := F0 m 98 ls [.int (iZ 0)]) rfl ?_
                refine lv_istore_n (lv' := [(3, .int (iZ 0)), (4, .int (iZ i)), (0, .ref hv), (1, .ref hy), (2, .ref hs)]) hx hb dX10_readInto_98 rfl hl (bl rfl) rfl (fun ls hl => ?_)
                refine lv_aload_n hx hb dX10_readInto_99 rfl (lv_at hl 2 rfl) ?_
                refine va_get (D := D) (ci := 10) (v := .ref hy) (C := RX10) (T := TX10) (N := 5) hx hb hts iX10 hown hK hP 0 rfl rfl 3 (bl rfl) (hts _ qf_X10_19) (fun _ h => h) rfl dX10_readInto_100 ?_
                refine lv_iload_n hx hb dX10_readInto_103 rfl (lv_at hl 0 rfl) ?_
                refine va_put (D := D) (ci := 9) (v := .int (iZ 0)) (ty := .boolean) (C := RX9) (T := TX9) (N := 8) hx hb hts iX9 tyX9 tyX9_ok nmX9 hown hK hP hD hS 4 rfl rfl 5 (bl rfl) (hts _ qf_X10_55) (fun _ h => h) rfl (by decide +kernel) rfl rfl (Nat.le_of_ble_eq_true rfl) dX10_readInto_104 (fun H locs hP hD hS => ?_)
                refine lv_iload_n hx hb dX10_readInto_107 rfl (lv_at hl 0 rfl) ?_
                exact EWz hx hb hr hlocks hS ((0, pl3, en3, ki3, va3, ke3, u_24.1.2.1, u_24.1.2.2, 0, de3, ys3, yr3), (0, nm3), (of03, ywf3, y1f3, y2f3, y3f3, ypf3), ()) rfl rfl ⟨(show (0 ≤ tp ∧ tp ≤ 900) ∧ (0 ≤ ln ∧ ln ≤ 900) ∧ (0 ≤ pl3 ∧ pl3 ≤ en3) ∧ (en3 ≤ ln) ∧ (0 ≤ ki3 ∧ ki3 ≤ 4) ∧ (-2147483648 ≤ va3 ∧ va3 < 2147483648) ∧ (-1 ≤ ke3 ∧ ke3 ≤ 24) from (by first | with_reducible assumption | exact ⟨⟨by omega, by omega⟩, ⟨by omega, by omega⟩, ⟨by omega, by omega⟩, by omega, ⟨by omega, by omega⟩, ⟨by omega, by omega⟩, by omega, by omega⟩)), (show 0 = 0 ∨ 0 = 1 from (by omega)), (show 0 = 0 from (by omega)), (show ((0 : Int) = 1 ∧ ∃ W9 A9 B9 C9 P9 O9 : Int → Int, xYrs (tX bf ln) N n = .inr (yr3, ys3, 0, W9, A9, B9, C9, P9, O9) ∧ YSY yr3 0 ywf3 y1f3 y2f3 y3f3 ypf3 of03 W9 A9 B9 C9 P9 O9 ∧ YV_ n (yr3, ys3, 0, W9, A9, B9, C9, P9, O9) ∧ u_24.1.2.1 = fk ∧ u_24.1.2.2 = fp) ∨ ((0 : Int) = 0 ∧ xYrs (tX bf ln) N n = .inl (u_24.1.2.1, u_24.1.2.2)) from (Or.inr ⟨rfl, xYrs_d hend (by show 0 < de3; omega) p_25⟩))⟩ (hP.sub [0, 1, 10, 11, 12, 4, 5, 6, 7, 8, 9, 2, 3] rfl) (hD.sub [0, 1, 10, 11, 12, 4, 5, 6, 7, 8, 9, 2, 3] rfl rfl) dX10_readInto_108
          ·
            have c_19 := (zeq (x := iZ z_18) (y := iZ 0) rfl rfl ⟨by omega, by omega⟩ wn_0).mp c_19
            refine lv_aload_n hx hb dX10_readInto_49 rfl (lv_at hl 2 rfl) ?_
            refine va_get (D := D) (ci := 10) (v := .ref hr1) (C := RX10) (T := TX10) (N := 5) hx hb hts iX10 hown hK hP 0 rfl rfl 0 (bl rfl) (hts _ qf_X10_15) (fun _ h => h) rfl dX10_readInto_50 ?_
            refine va_get (D := D) (ci := 4) (v := .int (iZ ke3)) (C := RX4) (T := TX4) (N := 12) hx hb hts iX4 hown hK hP 2 rfl rfl 8 (bl rfl) (hts _ qf_X10_42) (fun _ h => h) rfl dX10_readInto_53 ?_
            refine lv_bipush (v := iZ 23) hx hb dX10_readInto_56 bip_23 ?_
            refine lv_icmp_ne (tgt := 68) hx hb dX10_readInto_58 rfl (fun c_26 => ?_) (fun c_26 => ?_)
            ·
              have c_26 := mt (zeq (x := iZ ke3) (y := iZ 23) rfl rfl ⟨by omega, by omega⟩ wn_23).mpr c_26
              refine lv_aload_n hx hb dX10_readInto_68 rfl (lv_at hl 2 rfl) ?_
              refine CWV (As := []) (rest := []) (wc := _) (wr := []) hx hb hml hown hts hKK hP hD hS hA (x_readStep l D k hv oo hr1 tx kw hs hN hf hg de3 of03 tp ln pl3 en3 ki3 va3 ke3 fk3 fp3 nm3 bf kwf hy yw y1 y2 y3 yp 0 ys3 yr3 ywf3 y1f3 y2f3 y3f3 ypf3 n ni lw we nf cp N cW cA cB cC cP cO (by first | with_reducible assumption | exact ⟨⟨by omega, by omega⟩, ⟨by omega, by omega⟩, ⟨by omega, by omega⟩, by omega, ⟨by omega, by omega⟩, ⟨by omega, by omega⟩, by omega, by omega⟩) hbf hkw hx3 ⟨by omega, by omega⟩ ⟨by omega, by omega⟩ ⟨by omega, by omega⟩ ⟨by omega, by omega⟩ hS3 hV3 hns) ci_X10_readStep qm_X10_48 ⟨Nat.le_of_ble_eq_true rfl, Nat.le_of_ble_eq_true rfl⟩ ⟨Nat.le_of_ble_eq_true rfl, Nat.le_of_ble_eq_true rfl⟩ [0, 1, 2, 3, 4, 7, 8, 9, 10, 11, 12, 5, 6] [] rfl rfl rfl rfl rfl (dj rfl) 0 rfl rfl rfl hl.1 rfl (Nat.le_of_ble_eq_true rfl) dX10_readInto_69 (fun u_27 H locs hφ hP hD hS => ?_)
              obtain ⟨p_28, p_29⟩ : ((0 ≤ tp ∧ tp ≤ 900) ∧ (0 ≤ ln ∧ ln ≤ 900) ∧ (0 ≤ u_27.1.2.1 ∧ u_27.1.2.1 ≤ u_27.1.2.2.1) ∧ (u_27.1.2.2.1 ≤ ln) ∧ (0 ≤ u_27.1.2.2.2.1 ∧ u_27.1.2.2.2.1 ≤ 4) ∧ (-2147483648 ≤ u_27.1.2.2.2.2.1 ∧ u_27.1.2.2.2.2.1 < 2147483648) ∧ (-1 ≤ u_27.1.2.2.2.2.2.1 ∧ u_27.1.2.2.2.2.2.1 ≤ 24)) ∧ (((u_27.1.1 : Int) = 1 ∧ ∃ (q9 : Int) (W9 A9 B9 C9 P9 O9 : Int → Int), xSt (tX bf ln) N n cp (yr3, ys3, de3, cW, cA, cB, cC, cP, cO) = .inr (q9, (u_27.1.2.2.2.2.2.2.2.2.2.2, u_27.1.2.2.2.2.2.2.2.2.2.1, u_27.1.2.2.2.2.2.2.2.2.1, W9, A9, B9, C9, P9, O9)) ∧ cp < q9 ∧ RDX (tX bf ln) q9 u_27.1.2.1 u_27.1.2.2.1 u_27.1.2.2.2.1 u_27.1.2.2.2.2.1 u_27.1.2.2.2.2.2.1 u_27.2.1.2 ∧ YSY u_27.1.2.2.2.2.2.2.2.2.2.2 u_27.1.2.2.2.2.2.2.2.2.1 u_27.2.2.1.2.1 u_27.2.2.1.2.2.1 u_27.2.2.1.2.2.2.1 u_27.2.2.1.2.2.2.2 ypf3 u_27.2.2.1.1 W9 A9 B9 C9 P9 O9 ∧ u_27.1.2.2.2.2.2.2.1 = fk3 ∧ u_27.1.2.2.2.2.2.2.2.1 = fp3) ∨ ((u_27.1.1 : Int) = 0 ∧ xSt (tX bf ln) N n cp (yr3, ys3, de3, cW, cA, cB, cC, cP, cO) = .inl (u_27.1.2.2.2.2.2.2.1, u_27.1.2.2.2.2.2.2.2.1))) := hφ
              refine W.eq (g2 := F0 m 72 ls [.int (iZ u_27.1.1)]) rfl ?_
              rcases p_29 with ⟨qt_30, cut_30, W9t_30, A9t_30, B9t_30, C9t_30, P9t_30, O9t_30, st_30, lt_30, xt_30, yt_30, ut_30, vt_30⟩ | ⟨qt_30, st_30⟩
              ·
                rw [qt_30]
                obtain ⟨⟨ar_31, br_31⟩, cr_31, dr_31, er_31, fr_31, gr_31, hr_31⟩ := id xt_30
                refine lv_istore_n (lv' := [(3, .int (iZ 1)), (4, .int (iZ i)), (0, .ref hv), (1, .ref hy), (2, .ref hs)]) hx hb dX10_readInto_72 rfl hl (bl rfl) rfl (fun ls hl => ?_)
                have hyp : xYp (tX bf ln) N n cp (yr3, ys3, de3, cW, cA, cB, cC, cP, cO) = .inr (cut_30, (u_27.1.2.2.2.2.2.2.2.2.2.2, u_27.1.2.2.2.2.2.2.2.2.2.1, u_27.1.2.2.2.2.2.2.2.2.1, W9t_30, A9t_30, B9t_30, C9t_30, P9t_30, O9t_30)) := by unfold xYp; rw [if_neg (show ¬ xKw (tX bf ln) cp = 23 from (by omega))]; exact st_30
                refine lv_iinc (v := iZ (i + 1)) (lv' := [(4, .int (iZ (i + 1))), (3, .int (iZ 1)), (0, .ref hv), (1, .ref hy), (2, .ref hs)]) hx hb dX10_readInto_73 hl (k := 1) rfl (iZ_add i 1) (by decide) rfl (fun ls hl => ?_)
                refine lv_goto (tgt := 27) hx hb dX10_readInto_76 rfl ?_
                exact ih1  1 (i + 1) u_27.1.2.1 u_27.1.2.2.1 u_27.1.2.2.2.1 u_27.1.2.2.2.2.1 u_27.1.2.2.2.2.2.1 u_27.2.1.2 u_27.1.2.2.2.2.2.2.1 u_27.1.2.2.2.2.2.2.2.1 u_27.1.2.2.2.2.2.2.2.2.1 u_27.1.2.2.2.2.2.2.2.2.2.1 u_27.1.2.2.2.2.2.2.2.2.2.2 u_27.2.2.1.1 u_27.2.2.1.2.1 u_27.2.2.1.2.2.1 u_27.2.2.1.2.2.2.1 u_27.2.2.1.2.2.2.2 ypf3 cut_30 W9t_30 A9t_30 B9t_30 C9t_30 P9t_30 O9t_30 _ _ _ (by omega) (show 0 ≤ (i + 1) ∧ (i + 1) ≤ 301 from ⟨by omega, by omega⟩) (show 1 = 0 ∨ 1 = 1 from (by omega)) (show (0 ≤ tp ∧ tp ≤ 900) ∧ (0 ≤ ln ∧ ln ≤ 900) ∧ (0 ≤ u_27.1.2.1 ∧ u_27.1.2.1 ≤ u_27.1.2.2.1) ∧ (u_27.1.2.2.1 ≤ ln) ∧ (0 ≤ u_27.1.2.2.2.1 ∧ u_27.1.2.2.2.1 ≤ 4) ∧ (-2147483648 ≤ u_27.1.2.2.2.2.1 ∧ u_27.1.2.2.2.2.1 < 2147483648) ∧ (-1 ≤ u_27.1.2.2.2.2.2.1 ∧ u_27.1.2.2.2.2.2.1 ≤ 24) from (by first | with_reducible assumption | exact ⟨⟨by omega, by omega⟩, ⟨by omega, by omega⟩, ⟨by omega, by omega⟩, by omega, ⟨by omega, by omega⟩, ⟨by omega, by omega⟩, by omega, by omega⟩)) (show 1 = 1 → YSY u_27.1.2.2.2.2.2.2.2.2.2.2 u_27.1.2.2.2.2.2.2.2.2.1 u_27.2.2.1.2.1 u_27.2.2.1.2.2.1 u_27.2.2.1.2.2.2.1 u_27.2.2.1.2.2.2.2 ypf3 u_27.2.2.1.1 W9t_30 A9t_30 B9t_30 C9t_30 P9t_30 O9t_30 ∧ YV_ n (u_27.1.2.2.2.2.2.2.2.2.2.2, u_27.1.2.2.2.2.2.2.2.2.2.1, u_27.1.2.2.2.2.2.2.2.2.1, W9t_30, A9t_30, B9t_30, C9t_30, P9t_30, O9t_30) ∧ RDX (tX bf ln) cut_30 u_27.1.2.1 u_27.1.2.2.1 u_27.1.2.2.2.1 u_27.1.2.2.2.2.1 u_27.1.2.2.2.2.2.1 u_27.2.1.2 ∧ xYa (tX bf ln) N n 1000 cu yS0 = xYa (tX bf ln) N n (Int.toNat (1000 - (i + 1))) cut_30 (u_27.1.2.2.2.2.2.2.2.2.2.2, u_27.1.2.2.2.2.2.2.2.2.2.1, u_27.1.2.2.2.2.2.2.2.2.1, W9t_30, A9t_30, B9t_30, C9t_30, P9t_30, O9t_30) ∧ (i + 1) ≤ cut_30 ∧ u_27.1.2.2.2.2.2.2.1 = fk ∧ u_27.1.2.2.2.2.2.2.2.1 = fp from (fun _ => ⟨yt_30, (YV_yp hyp hV3), xt_30, (xYa_part (i := i) ⟨by omega, by omega⟩ hA3 (by omega) hyp), by omega, by omega, by omega⟩)) (show 1 = 0 → xYa (tX bf ln) N n 1000 cu yS0 = .inl (u_27.1.2.2.2.2.2.2.1, u_27.1.2.2.2.2.2.2.2.1) from (fun h => absurd (show (1 : Int) = 0 from h) (by decide))) (hP.sub [0, 1, 2, 3, 4, 11, 12, 5, 6, 7, 8, 9, 10] rfl) (hD.sub [0, 1, 2, 3, 4, 11, 12, 5, 6, 7, 8, 9, 10] rfl rfl) hS (lv_sub hl [0, 1, 2, 3, 4] rfl)
              ·
                rw [qt_30]
                refine lv_istore_n (lv' := [(3, .int (iZ 0)), (4, .int (iZ i)), (0, .ref hv), (1, .ref hy), (2, .ref hs)]) hx hb dX10_readInto_72 rfl hl (bl rfl) rfl (fun ls hl => ?_)
                have hyp : xYp (tX bf ln) N n cp (yr3, ys3, de3, cW, cA, cB, cC, cP, cO) = .inl (u_27.1.2.2.2.2.2.2.1, u_27.1.2.2.2.2.2.2.2.1) := by unfold xYp; rw [if_neg (show ¬ xKw (tX bf ln) cp = 23 from (by omega))]; exact st_30
                refine lv_iinc (v := iZ (i + 1)) (lv' := [(4, .int (iZ (i + 1))), (3, .int (iZ 0)), (0, .ref hv), (1, .ref hy), (2, .ref hs)]) hx hb dX10_readInto_73 hl (k := 1) rfl (iZ_add i 1) (by decide) rfl (fun ls hl => ?_)
                refine lv_goto (tgt := 27) hx hb dX10_readInto_76 rfl ?_
                exact ih1  0 (i + 1) u_27.1.2.1 u_27.1.2.2.1 u_27.1.2.2.2.1 u_27.1.2.2.2.2.1 u_27.1.2.2.2.2.2.1 u_27.2.1.2 u_27.1.2.2.2.2.2.2.1 u_27.1.2.2.2.2.2.2.2.1 u_27.1.2.2.2.2.2.2.2.2.1 u_27.1.2.2.2.2.2.2.2.2.2.1 u_27.1.2.2.2.2.2.2.2.2.2.2 u_27.2.2.1.1 u_27.2.2.1.2.1 u_27.2.2.1.2.2.1 u_27.2.2.1.2.2.2.1 u_27.2.2.1.2.2.2.2 ypf3 cp cW cA cB cC cP cO _ _ _ (by omega) (show 0 ≤ (i + 1) ∧ (i + 1) ≤ 301 from ⟨by omega, by omega⟩) (show 0 = 0 ∨ 0 = 1 from (by omega)) (show (0 ≤ tp ∧ tp ≤ 900) ∧ (0 ≤ ln ∧ ln ≤ 900) ∧ (0 ≤ u_27.1.2.1 ∧ u_27.1.2.1 ≤ u_27.1.2.2.1) ∧ (u_27.1.2.2.1 ≤ ln) ∧ (0 ≤ u_27.1.2.2.2.1 ∧ u_27.1.2.2.2.1 ≤ 4) ∧ (-2147483648 ≤ u_27.1.2.2.2.2.1 ∧ u_27.1.2.2.2.2.1 < 2147483648) ∧ (-1 ≤ u_27.1.2.2.2.2.2.1 ∧ u_27.1.2.2.2.2.2.1 ≤ 24) from (by first | with_reducible assumption | exact ⟨⟨by omega, by omega⟩, ⟨by omega, by omega⟩, ⟨by omega, by omega⟩, by omega, ⟨by omega, by omega⟩, ⟨by omega, by omega⟩, by omega, by omega⟩)) (show 0 = 1 → YSY u_27.1.2.2.2.2.2.2.2.2.2.2 u_27.1.2.2.2.2.2.2.2.2.1 u_27.2.2.1.2.1 u_27.2.2.1.2.2.1 u_27.2.2.1.2.2.2.1 u_27.2.2.1.2.2.2.2 ypf3 u_27.2.2.1.1 cW cA cB cC cP cO ∧ YV_ n (u_27.1.2.2.2.2.2.2.2.2.2.2, u_27.1.2.2.2.2.2.2.2.2.2.1, u_27.1.2.2.2.2.2.2.2.2.1, cW, cA, cB, cC, cP, cO) ∧ RDX (tX bf ln) cp u_27.1.2.1 u_27.1.2.2.1 u_27.1.2.2.2.1 u_27.1.2.2.2.2.1 u_27.1.2.2.2.2.2.1 u_27.2.1.2 ∧ xYa (tX bf ln) N n 1000 cu yS0 = xYa (tX bf ln) N n (Int.toNat (1000 - (i + 1))) cp (u_27.1.2.2.2.2.2.2.2.2.2.2, u_27.1.2.2.2.2.2.2.2.2.2.1, u_27.1.2.2.2.2.2.2.2.2.1, cW, cA, cB, cC, cP, cO) ∧ (i + 1) ≤ cp ∧ u_27.1.2.2.2.2.2.2.1 = fk ∧ u_27.1.2.2.2.2.2.2.2.1 = fp from (fun h => absurd (show (0 : Int) = 1 from h) (by decide))) (show 0 = 0 → xYa (tX bf ln) N n 1000 cu yS0 = .inl (u_27.1.2.2.2.2.2.2.1, u_27.1.2.2.2.2.2.2.2.1) from (fun _ => (xYa_fault (i := i) ⟨by omega, by omega⟩ hA3 (by omega) hyp))) (hP.sub [0, 1, 2, 3, 4, 11, 12, 5, 6, 7, 8, 9, 10] rfl) (hD.sub [0, 1, 2, 3, 4, 11, 12, 5, 6, 7, 8, 9, 10] rfl rfl) hS (lv_sub hl [0, 1, 2, 3, 4] rfl)
            ·
              have c_26 := (zeq (x := iZ ke3) (y := iZ 23) rfl rfl ⟨by omega, by omega⟩ wn_23).mp c_26
              refine lv_aload_n hx hb dX10_readInto_61 rfl (lv_at hl 2 rfl) ?_
              refine CWV (As := []) (rest := []) (wc := _) (wr := []) hx hb hml hown hts hKK hP hD hS hA (x_readEnd l D k hv oo hr1 tx kw hs hN hf hg de3 of03 tp ln pl3 en3 ki3 va3 ke3 fk3 fp3 nm3 bf kwf hy yw y1 y2 y3 yp 0 ys3 yr3 ywf3 y1f3 y2f3 y3f3 ypf3 n ni lw we nf cp N cW cA cB cC cP cO (by first | with_reducible assumption | exact ⟨⟨by omega, by omega⟩, ⟨by omega, by omega⟩, ⟨by omega, by omega⟩, by omega, ⟨by omega, by omega⟩, ⟨by omega, by omega⟩, by omega, by omega⟩) hbf hkw hx3 ⟨by omega, by omega⟩ ⟨by omega, by omega⟩ ⟨by omega, by omega⟩ hS3 hV3) ci_X10_readEnd qm_X10_45 ⟨Nat.le_of_ble_eq_true rfl, Nat.le_of_ble_eq_true rfl⟩ ⟨Nat.le_of_ble_eq_true rfl, Nat.le_of_ble_eq_true rfl⟩ [0, 1, 2, 3, 4, 7, 8, 9, 10, 11, 12, 5, 6] [] rfl rfl rfl rfl rfl (dj rfl) 0 rfl rfl rfl hl.1 rfl (Nat.le_of_ble_eq_true rfl) dX10_readInto_62 (fun u_32 H locs hφ hP hD hS => ?_)
              obtain ⟨p_33, p_34⟩ : ((0 ≤ tp ∧ tp ≤ 900) ∧ (0 ≤ ln ∧ ln ≤ 900) ∧ (0 ≤ u_32.1.2.1 ∧ u_32.1.2.1 ≤ u_32.1.2.2.1) ∧ (u_32.1.2.2.1 ≤ ln) ∧ (0 ≤ u_32.1.2.2.2.1 ∧ u_32.1.2.2.2.1 ≤ 4) ∧ (-2147483648 ≤ u_32.1.2.2.2.2.1 ∧ u_32.1.2.2.2.2.1 < 2147483648) ∧ (-1 ≤ u_32.1.2.2.2.2.2.1 ∧ u_32.1.2.2.2.2.2.1 ≤ 24)) ∧ (((u_32.1.1 : Int) = 1 ∧ ∃ (q9 : Int) (W9 A9 B9 C9 P9 O9 : Int → Int), xEd (tX bf ln) cp (yr3, ys3, de3, cW, cA, cB, cC, cP, cO) = .inr (q9, (u_32.1.2.2.2.2.2.2.2.2.2, ys3, u_32.1.2.2.2.2.2.2.2.2.1, W9, A9, B9, C9, P9, O9)) ∧ cp < q9 ∧ RDX (tX bf ln) q9 u_32.1.2.1 u_32.1.2.2.1 u_32.1.2.2.2.1 u_32.1.2.2.2.2.1 u_32.1.2.2.2.2.2.1 u_32.2.1.2 ∧ YSY u_32.1.2.2.2.2.2.2.2.2.2 u_32.1.2.2.2.2.2.2.2.2.1 u_32.2.2.1.1 y1f3 y2f3 y3f3 u_32.2.2.1.2 of03 W9 A9 B9 C9 P9 O9 ∧ u_32.1.2.2.2.2.2.2.1 = fk3 ∧ u_32.1.2.2.2.2.2.2.2.1 = fp3) ∨ ((u_32.1.1 : Int) = 0 ∧ xEd (tX bf ln) cp (yr3, ys3, de3, cW, cA, cB, cC, cP, cO) = .inl (u_32.1.2.2.2.2.2.2.1, u_32.1.2.2.2.2.2.2.2.1))) := hφ
              refine W.eq (g2 := F0 m 65 ls [.int (iZ u_32.1.1)]) rfl ?_
              rcases p_34 with ⟨qt_35, cut_35, W9t_35, A9t_35, B9t_35, C9t_35, P9t_35, O9t_35, st_35, lt_35, xt_35, yt_35, ut_35, vt_35⟩ | ⟨qt_35, st_35⟩
              ·
                rw [qt_35]
                obtain ⟨⟨ar_36, br_36⟩, cr_36, dr_36, er_36, fr_36, gr_36, hr_36⟩ := id xt_35
                refine lv_goto (tgt := 72) hx hb dX10_readInto_65 rfl ?_
                refine lv_istore_n (lv' := [(3, .int (iZ 1)), (4, .int (iZ i)), (0, .ref hv), (1, .ref hy), (2, .ref hs)]) hx hb dX10_readInto_72 rfl hl (bl rfl) rfl (fun ls hl => ?_)
                have hyp : xYp (tX bf ln) N n cp (yr3, ys3, de3, cW, cA, cB, cC, cP, cO) = .inr (cut_35, (u_32.1.2.2.2.2.2.2.2.2.2, ys3, u_32.1.2.2.2.2.2.2.2.2.1, W9t_35, A9t_35, B9t_35, C9t_35, P9t_35, O9t_35)) := by unfold xYp; rw [if_pos (show xKw (tX bf ln) cp = 23 from (by omega))]; exact st_35
                refine lv_iinc (v := iZ (i + 1)) (lv' := [(4, .int (iZ (i + 1))), (3, .int (iZ 1)), (0, .ref hv), (1, .ref hy), (2, .ref hs)]) hx hb dX10_readInto_73 hl (k := 1) rfl (iZ_add i 1) (by decide) rfl (fun ls hl => ?_)
                refine lv_goto (tgt := 27) hx hb dX10_readInto_76 rfl ?_
                exact ih1  1 (i + 1) u_32.1.2.1 u_32.1.2.2.1 u_32.1.2.2.2.1 u_32.1.2.2.2.2.1 u_32.1.2.2.2.2.2.1 u_32.2.1.2 u_32.1.2.2.2.2.2.2.1 u_32.1.2.2.2.2.2.2.2.1 u_32.1.2.2.2.2.2.2.2.2.1 ys3 u_32.1.2.2.2.2.2.2.2.2.2 of03 u_32.2.2.1.1 y1f3 y2f3 y3f3 u_32.2.2.1.2 cut_35 W9t_35 A9t_35 B9t_35 C9t_35 P9t_35 O9t_35 _ _ _ (by omega) (show 0 ≤ (i + 1) ∧ (i + 1) ≤ 301 from ⟨by omega, by omega⟩) (show 1 = 0 ∨ 1 = 1 from (by omega)) (show (0 ≤ tp ∧ tp ≤ 900) ∧ (0 ≤ ln ∧ ln ≤ 900) ∧ (0 ≤ u_32.1.2.1 ∧ u_32.1.2.1 ≤ u_32.1.2.2.1) ∧ (u_32.1.2.2.1 ≤ ln) ∧ (0 ≤ u_32.1.2.2.2.1 ∧ u_32.1.2.2.2.1 ≤ 4) ∧ (-2147483648 ≤ u_32.1.2.2.2.2.1 ∧ u_32.1.2.2.2.2.1 < 2147483648) ∧ (-1 ≤ u_32.1.2.2.2.2.2.1 ∧ u_32.1.2.2.2.2.2.1 ≤ 24) from (by first | with_reducible assumption | exact ⟨⟨by omega, by omega⟩, ⟨by omega, by omega⟩, ⟨by omega, by omega⟩, by omega, ⟨by omega, by omega⟩, ⟨by omega, by omega⟩, by omega, by omega⟩)) (show 1 = 1 → YSY u_32.1.2.2.2.2.2.2.2.2.2 u_32.1.2.2.2.2.2.2.2.2.1 u_32.2.2.1.1 y1f3 y2f3 y3f3 u_32.2.2.1.2 of03 W9t_35 A9t_35 B9t_35 C9t_35 P9t_35 O9t_35 ∧ YV_ n (u_32.1.2.2.2.2.2.2.2.2.2, ys3, u_32.1.2.2.2.2.2.2.2.2.1, W9t_35, A9t_35, B9t_35, C9t_35, P9t_35, O9t_35) ∧ RDX (tX bf ln) cut_35 u_32.1.2.1 u_32.1.2.2.1 u_32.1.2.2.2.1 u_32.1.2.2.2.2.1 u_32.1.2.2.2.2.2.1 u_32.2.1.2 ∧ xYa (tX bf ln) N n 1000 cu yS0 = xYa (tX bf ln) N n (Int.toNat (1000 - (i + 1))) cut_35 (u_32.1.2.2.2.2.2.2.2.2.2, ys3, u_32.1.2.2.2.2.2.2.2.2.1, W9t_35, A9t_35, B9t_35, C9t_35, P9t_35, O9t_35) ∧ (i + 1) ≤ cut_35 ∧ u_32.1.2.2.2.2.2.2.1 = fk ∧ u_32.1.2.2.2.2.2.2.2.1 = fp from (fun _ => ⟨yt_35, (YV_yp hyp hV3), xt_35, (xYa_part (i := i) ⟨by omega, by omega⟩ hA3 (by omega) hyp), by omega, by omega, by omega⟩)) (show 1 = 0 → xYa (tX bf ln) N n 1000 cu yS0 = .inl (u_32.1.2.2.2.2.2.2.1, u_32.1.2.2.2.2.2.2.2.1) from (fun h => absurd (show (1 : Int) = 0 from h) (by decide))) (hP.sub [0, 1, 2, 3, 4, 11, 12, 5, 6, 7, 8, 9, 10] rfl) (hD.sub [0, 1, 2, 3, 4, 11, 12, 5, 6, 7, 8, 9, 10] rfl rfl) hS (lv_sub hl [0, 1, 2, 3, 4] rfl)
              ·
                rw [qt_35]
                refine lv_goto (tgt := 72) hx hb dX10_readInto_65 rfl ?_
                refine lv_istore_n (lv' := [(3, .int (iZ 0)), (4, .int (iZ i)), (0, .ref hv), (1, .ref hy), (2, .ref hs)]) hx hb dX10_readInto_72 rfl hl (bl rfl) rfl (fun ls hl => ?_)
                have hyp : xYp (tX bf ln) N n cp (yr3, ys3, de3, cW, cA, cB, cC, cP, cO) = .inl (u_32.1.2.2.2.2.2.2.1, u_32.1.2.2.2.2.2.2.2.1) := by unfold xYp; rw [if_pos (show xKw (tX bf ln) cp = 23 from (by omega))]; exact st_35
                refine lv_iinc (v := iZ (i + 1)) (lv' := [(4, .int (iZ (i + 1))), (3, .int (iZ 0)), (0, .ref hv), (1, .ref hy), (2, .ref hs)]) hx hb dX10_readInto_73 hl (k := 1) rfl (iZ_add i 1) (by decide) rfl (fun ls hl => ?_)
                refine lv_goto (tgt := 27) hx hb dX10_readInto_76 rfl ?_
                exact ih1  0 (i + 1) u_32.1.2.1 u_32.1.2.2.1 u_32.1.2.2.2.1 u_32.1.2.2.2.2.1 u_32.1.2.2.2.2.2.1 u_32.2.1.2 u_32.1.2.2.2.2.2.2.1 u_32.1.2.2.2.2.2.2.2.1 u_32.1.2.2.2.2.2.2.2.2.1 ys3 u_32.1.2.2.2.2.2.2.2.2.2 of03 u_32.2.2.1.1 y1f3 y2f3 y3f3 u_32.2.2.1.2 cp cW cA cB cC cP cO _ _ _ (by omega) (show 0 ≤ (i + 1) ∧ (i + 1) ≤ 301 from ⟨by omega, by omega⟩) (show 0 = 0 ∨ 0 = 1 from (by omega)) (show (0 ≤ tp ∧ tp ≤ 900) ∧ (0 ≤ ln ∧ ln ≤ 900) ∧ (0 ≤ u_32.1.2.1 ∧ u_32.1.2.1 ≤ u_32.1.2.2.1) ∧ (u_32.1.2.2.1 ≤ ln) ∧ (0 ≤ u_32.1.2.2.2.1 ∧ u_32.1.2.2.2.1 ≤ 4) ∧ (-2147483648 ≤ u_32.1.2.2.2.2.1 ∧ u_32.1.2.2.2.2.1 < 2147483648) ∧ (-1 ≤ u_32.1.2.2.2.2.2.1 ∧ u_32.1.2.2.2.2.2.1 ≤ 24) from (by first | with_reducible assumption | exact ⟨⟨by omega, by omega⟩, ⟨by omega, by omega⟩, ⟨by omega, by omega⟩, by omega, ⟨by omega, by omega⟩, ⟨by omega, by omega⟩, by omega, by omega⟩)) (show 0 = 1 → YSY u_32.1.2.2.2.2.2.2.2.2.2 u_32.1.2.2.2.2.2.2.2.2.1 u_32.2.2.1.1 y1f3 y2f3 y3f3 u_32.2.2.1.2 of03 cW cA cB cC cP cO ∧ YV_ n (u_32.1.2.2.2.2.2.2.2.2.2, ys3, u_32.1.2.2.2.2.2.2.2.2.1, cW, cA, cB, cC, cP, cO) ∧ RDX (tX bf ln) cp u_32.1.2.1 u_32.1.2.2.1 u_32.1.2.2.2.1 u_32.1.2.2.2.2.1 u_32.1.2.2.2.2.2.1 u_32.2.1.2 ∧ xYa (tX bf ln) N n 1000 cu yS0 = xYa (tX bf ln) N n (Int.toNat (1000 - (i + 1))) cp (u_32.1.2.2.2.2.2.2.2.2.2, ys3, u_32.1.2.2.2.2.2.2.2.2.1, cW, cA, cB, cC, cP, cO) ∧ (i + 1) ≤ cp ∧ u_32.1.2.2.2.2.2.2.1 = fk ∧ u_32.1.2.2.2.2.2.2.2.1 = fp from (fun h => absurd (show (0 : Int) = 1 from h) (by decide))) (show 0 = 0 → xYa (tX bf ln) N n 1000 cu yS0 = .inl (u_32.1.2.2.2.2.2.2.1, u_32.1.2.2.2.2.2.2.2.1) from (fun _ => (xYa_fault (i := i) ⟨by omega, by omega⟩ hA3 (by omega) hyp))) (hP.sub [0, 1, 2, 3, 4, 11, 12, 5, 6, 7, 8, 9, 10] rfl) (hD.sub [0, 1, 2, 3, 4, 11, 12, 5, 6, 7, 8, 9, 10] rfl rfl) hS (lv_sub hl [0, 1, 2, 3, 4] rfl)
  exact HL1 303 1 0 pl en ki va ke nm fk fp 0 0 0 of0 ywf y1f y2f y3f ypf cu (fun _ => -1) (fun _ => -1) (fun _ => -1) (fun _ => -1) (fun _ => -1) (fun _ => -1) _ _ _ (by omega) (show 0 ≤ 0 ∧ 0 ≤ 301 from ⟨by omega, by omega⟩) (show 1 = 0 ∨ 1 = 1 from (by omega)) (show (0 ≤ tp ∧ tp ≤ 900) ∧ (0 ≤ ln ∧ ln ≤ 900) ∧ (0 ≤ pl ∧ pl ≤ en) ∧ (en ≤ ln) ∧ (0 ≤ ki ∧ ki ≤ 4) ∧ (-2147483648 ≤ va ∧ va < 2147483648) ∧ (-1 ≤ ke ∧ ke ≤ 24) from (by first | with_reducible assumption | exact ⟨⟨by omega, by omega⟩, ⟨by omega, by omega⟩, ⟨by omega, by omega⟩, by omega, ⟨by omega, by omega⟩, ⟨by omega, by omega⟩, by omega, by omega⟩)) (show 1 = 1 → YSY 0 0 ywf y1f y2f y3f ypf of0 (fun _ => -1) (fun _ => -1) (fun _ => -1) (fun _ => -1) (fun _ => -1) (fun _ => -1) ∧ YV_ n (0, 0, 0, (fun _ => -1), (fun _ => -1), (fun _ => -1), (fun _ => -1), (fun _ => -1), (fun _ => -1)) ∧ RDX (tX bf ln) cu pl en ki va ke nm ∧ xYa (tX bf ln) N n 1000 cu yS0 = xYa (tX bf ln) N n (Int.toNat (1000 - 0)) cu (0, 0, 0, (fun _ => -1), (fun _ => -1), (fun _ => -1), (fun _ => -1), (fun _ => -1), (fun _ => -1)) ∧ 0 ≤ cu ∧ fk = fk ∧ fp = fp from (fun _ => ⟨⟨yRw_0, yRw_0, yRw_0, yRw_0, yRw_0, yRw_0⟩, YV_0, hrx, (show xYa (tX bf ln) N n 1000 cu yS0 = xYa (tX bf ln) N n (1000 - 0 : Int).toNat cu yS0 from rfl), by omega, by omega, by omega⟩)) (show 1 = 0 → xYa (tX bf ln) N n 1000 cu yS0 = .inl (fk, fp) from (fun h => absurd (show (1 : Int) = 0 from h) (by decide))) (hP.sub [0, 1, 2, 3, 4, 5, 6, 7, 8, 9, 10, 11, 12] rfl) (hD.sub [0, 1, 2, 3, 4, 5, 6, 7, 8, 9, 10, 11, 12] rfl rfl) hS (lv_sub hl [0, 1, 2, 3, 4] rfl)
end
