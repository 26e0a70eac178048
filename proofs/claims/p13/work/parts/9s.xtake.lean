section
set_option maxHeartbeats 4000000 in
set_option maxRecDepth 100000 in
theorem x_takeRock (l : Launch) (D : va_G) (k : Nat → ClassId) (fs : List Value) (hr1 : Nat) (tx : Nat) (kw : Nat) (hs : Nat) (hN : Nat) (tp : Int) (ln : Int) (pl : Int) (en : Int) (ki : Int) (va : Int) (ke : Int) (fk : Int) (fp : Int) (nm : Int64) (bf : Nat → Int32) (kwf : Nat → Int64) (nf : Nat → Int64) (n : Int) (cu : Int) (w : Int) (N : Int → Int) (f0 : fs[0]? = some (.ref hN)) (f3 : fs[3]? = some (.int (iZ n))) (hI1 : (0 ≤ tp ∧ tp ≤ 900) ∧ (0 ≤ ln ∧ ln ≤ 900) ∧ (0 ≤ pl ∧ pl ≤ en) ∧ (en ≤ ln) ∧ (0 ≤ ki ∧ ki ≤ 4) ∧ (-2147483648 ≤ va ∧ va < 2147483648) ∧ (-1 ≤ ke ∧ ke ≤ 24)) (hbf : rgI bf (-128) 127 900) (hkw : ∀ j : Nat, j < 25 → kwf j = lZ (kwC j)) (hrx : RDX (tX bf ln) cu pl en ki va ke nm) (hn : 0 ≤ n ∧ n ≤ 6) (hw : -2147483648 ≤ w ∧ w < 2147483648) (hns : xNs nf N n) : WD (σ := ((Int × Int × Int × Int × Int × Int × Int × Int) × (Int64 × Int64) × (Unit) × (Unit))) l yX4_takeRock cX4_takeRock 5 (some .int) 2 0 0 D k [.ref hr1, .ref hs, .int (iZ w)] [(hr1, .inr (4, [.ref tx, .ref kw, .int (iZ tp), .int (iZ ln), .int (iZ pl), .int (iZ en), .int (iZ ki), .int (iZ va), .int (iZ ke), .long nm, .int (iZ fk), .int (iZ fp)])), (tx, .inl (k 0, 900, .inl bf)), (kw, .inl (k 2, 25, .inr (.inl kwf))), (hs, .inr (5, fs)), (hN, .inl (k 2, 6, .inr (.inl nf)))] (fun u => some (.int (iZ u.1.1))) (fun u => ((0 ≤ tp ∧ tp ≤ 900) ∧ (0 ≤ ln ∧ ln ≤ 900) ∧ (0 ≤ u.1.2.1 ∧ u.1.2.1 ≤ u.1.2.2.1) ∧ (u.1.2.2.1 ≤ ln) ∧ (0 ≤ u.1.2.2.2.1 ∧ u.1.2.2.2.1 ≤ 4) ∧ (-2147483648 ≤ u.1.2.2.2.2.1 ∧ u.1.2.2.2.2.1 < 2147483648) ∧ (-1 ≤ u.1.2.2.2.2.2.1 ∧ u.1.2.2.2.2.2.1 ≤ 24)) ∧ ((¬ (u.1.1 : Int) = -1 ∧ ∃ q9 : Int, xTr (tX bf ln) N n w cu = .inr (q9, u.1.1) ∧ cu < q9 ∧ RDX (tX bf ln) q9 u.1.2.1 u.1.2.2.1 u.1.2.2.2.1 u.1.2.2.2.2.1 u.1.2.2.2.2.2.1 u.2.1.2 ∧ (0 ≤ u.1.1 ∧ u.1.1 < n) ∧ u.1.2.2.2.2.2.2.1 = fk ∧ u.1.2.2.2.2.2.2.2 = fp) ∨ ((u.1.1 : Int) = -1 ∧ xTr (tX bf ln) N n w cu = .inl (u.1.2.2.2.2.2.2.1, u.1.2.2.2.2.2.2.2)))) (fun u => [(hr1, .inr (4, [.ref tx, .ref kw, .int (iZ tp), .int (iZ ln), .int (iZ u.1.2.1), .int (iZ u.1.2.2.1), .int (iZ u.1.2.2.2.1), .int (iZ u.1.2.2.2.2.1), .int (iZ u.1.2.2.2.2.2.1), .long u.2.1.2, .int (iZ u.1.2.2.2.2.2.2.1), .int (iZ u.1.2.2.2.2.2.2.2)])), (tx, .inl (k 0, 900, .inl bf)), (kw, .inl (k 2, 25, .inr (.inl kwf))), (hs, .inr (5, fs)), (hN, .inl (k 2, 6, .inr (.inl nf)))]) := by
  refine MW (by decide) (Nat.le_of_ble_eq_true rfl) (fun p e s m below meth c ls A hx hb hml hr hlocks hin hts hown hKK hP hD hS hA hl => ?_)
  have hK := hKK.1
  have hl : lv_has ls 5 [(0, .ref hr1), (1, .ref hs), (2, .int (iZ w))] := hl
  obtain ⟨⟨ar_1, br_1⟩, cr_1, dr_1, er_1, fr_1, gr_1, hr_1⟩ := id hrx
  refine lv_aload_n hx hb dX4_takeRock_0 rfl (lv_at hl 0 rfl) ?_
  refine CPV (As := []) (rest := []) hx hb hml hown hts hKK (hP.sub (ws' := [(hr1, .inr (4, [.ref tx, .ref kw, .int (iZ tp), .int (iZ ln), .int (iZ pl), .int (iZ en), .int (iZ ki), .int (iZ va), .int (iZ ke), .long nm, .int (iZ fk), .int (iZ fp)])), (tx, .inl (k 0, 900, .inl bf))]) [0, 1] rfl) (x_isName l D k hr1 tx kw tp ln pl en ki va ke fk fp nm bf cu (by first | with_reducible assumption | exact ⟨⟨by omega, by omega⟩, ⟨by omega, by omega⟩, ⟨by omega, by omega⟩, by omega, ⟨by omega, by omega⟩, ⟨by omega, by omega⟩, by omega, by omega⟩) hrx) ci_X4_isName qm_X4_84 ⟨Nat.le_of_ble_eq_true rfl, Nat.le_of_ble_eq_true rfl⟩ ⟨Nat.le_of_ble_eq_true rfl, Nat.le_of_ble_eq_true rfl⟩ 0 rfl rfl rfl hl.1 rfl (Nat.le_of_ble_eq_true rfl) dX4_takeRock_1 (fun z_2 hz_2 => ?_)
  rcases hz_2 with ⟨qz_2, hz_2⟩ | ⟨qz_2, hz_2⟩
  ·
    subst qz_2
    refine lv_if_eq (tgt := 18) hx hb dX4_takeRock_4 rfl (fun c => absurd c (by decide)) (fun _ => ?_)
    refine lv_aload_n hx hb dX4_takeRock_7 rfl (lv_at hl 1 rfl) ?_
    refine lv_aload_n hx hb dX4_takeRock_8 rfl (lv_at hl 0 rfl) ?_
    refine va_get (D := D) (ci := 4) (v := .long nm) (C := RX4) (T := TX4) (N := 12) hx hb hts iX4 hown hK hP 0 rfl rfl 9 (bl rfl) (hts _ qf_X4_61) (fun _ h => h) rfl dX4_takeRock_9 ?_
    refine CPV (As := [.long nm]) (rest := []) hx hb hml hown hts hKK (hP.sub (ws' := [(hs, .inr (5, fs)), (hN, .inl (k 2, 6, .inr (.inl nf)))]) [3, 4] rfl) (k_named l D k hs hN fs f0 nf n f3 ⟨by omega, by omega⟩ nm) ci_X5_named qm_X4_88 ⟨Nat.le_of_ble_eq_true rfl, Nat.le_of_ble_eq_true rfl⟩ ⟨Nat.le_of_ble_eq_true rfl, Nat.le_of_ble_eq_true rfl⟩ 0 rfl rfl rfl hl.1 rfl (Nat.le_of_ble_eq_true rfl) dX4_takeRock_12 (fun z_4 hz_4 => ?_)
    have hm_z_4 := nm_rg hz_4
    have hf_z_4 := isNm_fn (N := N) hns (gr_1 (by omega)).1 (xNm_rg (gr_1 (by omega)).2 (by omega)) hz_4
    refine lv_goto (tgt := 19) hx hb dX4_takeRock_15 rfl ?_
    refine lv_istore_n (lv' := [(3, .int (iZ z_4)), (0, .ref hr1), (1, .ref hs), (2, .int (iZ w))]) hx hb dX4_takeRock_19 rfl hl (bl rfl) rfl (fun ls hl => ?_)
    refine lv_iload_n hx hb dX4_takeRock_20 rfl (lv_at hl 0 rfl) ?_
    refine lv_iconst (v := iZ (-1)) hx hb dX4_takeRock_21 rfl ?_
    refine lv_icmp_eq (tgt := 30) hx hb dX4_takeRock_22 rfl (fun c_5 => ?_) (fun c_5 => ?_)
    ·
      have c_5 := (zeq (x := iZ z_4) (y := iZ (-1)) rfl rfl ⟨by omega, by omega⟩ wn_m1).mp c_5
      refine lv_iload_n hx hb dX4_takeRock_30 rfl (lv_at hl 0 rfl) ?_
      refine lv_iconst (v := iZ (-1)) hx hb dX4_takeRock_31 rfl ?_
      refine lv_icmp_ne (tgt := 39) hx hb dX4_takeRock_32 rfl (fun c_6 => ?_) (fun c_6 => ?_)
      ·
        have c_6 := mt (zeq (x := iZ z_4) (y := iZ (-1)) rfl rfl ⟨by omega, by omega⟩ wn_m1).mpr c_6
        refine lv_iconst (v := iZ 5) hx hb dX4_takeRock_39 rfl ?_
        refine lv_istore (lv' := [(4, .int (iZ 5)), (3, .int (iZ z_4)), (0, .ref hr1), (1, .ref hs), (2, .int (iZ w))]) hx hb dX4_takeRock_40 hl (bl rfl) rfl (fun ls hl => ?_)
        refine lv_aload_n hx hb dX4_takeRock_42 rfl (lv_at hl 2 rfl) ?_
        refine lv_aload_n hx hb dX4_takeRock_43 rfl (lv_at hl 2 rfl) ?_
        refine CPV (As := []) (rest := [.ref hr1]) hx hb hml hown hts hKK (hP.sub (ws' := [(hr1, .inr (4, [.ref tx, .ref kw, .int (iZ tp), .int (iZ ln), .int (iZ pl), .int (iZ en), .int (iZ ki), .int (iZ va), .int (iZ ke), .long nm, .int (iZ fk), .int (iZ fp)])), (tx, .inl (k 0, 900, .inl bf))]) [0, 1] rfl) (x_isName l D k hr1 tx kw tp ln pl en ki va ke fk fp nm bf cu (by first | with_reducible assumption | exact ⟨⟨by omega, by omega⟩, ⟨by omega, by omega⟩, ⟨by omega, by omega⟩, by omega, ⟨by omega, by omega⟩, ⟨by omega, by omega⟩, by omega, by omega⟩) hrx) ci_X4_isName qm_X4_84 ⟨Nat.le_of_ble_eq_true rfl, Nat.le_of_ble_eq_true rfl⟩ ⟨Nat.le_of_ble_eq_true rfl, Nat.le_of_ble_eq_true rfl⟩ 0 rfl rfl rfl hl.1 rfl (Nat.le_of_ble_eq_true rfl) dX4_takeRock_44 (fun z_7 hz_7 => ?_)
        rcases hz_7 with ⟨qz_7, hz_7⟩ | ⟨qz_7, hz_7⟩
        ·
          subst qz_7
          refine lv_if_eq (tgt := 55) hx hb dX4_takeRock_47 rfl (fun c => absurd c (by decide)) (fun _ => ?_)
          refine lv_iload hx hb dX4_takeRock_50 (lv_at hl 0 rfl) ?_
          refine lv_goto (tgt := 56) hx hb dX4_takeRock_52 rfl ?_
          refine CWV (As := [.int (iZ 5)]) (rest := []) (wc := _) (wr := [(hs, .inr (5, fs)), (hN, .inl (k 2, 6, .inr (.inl nf)))]) hx hb hml hown hts hKK hP hD hS hA (x_fail l D k hr1 tx kw tp ln pl en ki va ke fk fp nm bf kwf cu 5 (by first | with_reducible assumption | exact ⟨⟨by omega, by omega⟩, ⟨by omega, by omega⟩, ⟨by omega, by omega⟩, by omega, ⟨by omega, by omega⟩, ⟨by omega, by omega⟩, by omega, by omega⟩) hrx) ci_X4_fail qm_X4_80 ⟨Nat.le_of_ble_eq_true rfl, Nat.le_of_ble_eq_true rfl⟩ ⟨Nat.le_of_ble_eq_true rfl, Nat.le_of_ble_eq_true rfl⟩ [0, 1, 2] [3, 4] rfl rfl rfl rfl rfl (dj rfl) 0 rfl rfl rfl hl.1 rfl (Nat.le_of_ble_eq_true rfl) dX4_takeRock_56 (fun u_9 H locs hφ hP hD hS => ?_)
          have p_10 : u_9.1.2.1 = xFl (tX bf ln) cu 5 ∧ u_9.1.2.2 = xPl (tX bf ln) cu := hφ
          refine W.eq (g2 := F0 m 59 ls [.int (iZ 0)]) rfl ?_
          refine lv_pop hx hb dX4_takeRock_59 rfl ?_
          refine lv_iconst (v := iZ (-1)) hx hb dX4_takeRock_60 rfl ?_
          have hrk : xRk (tX bf ln) N n cu = z_4 := by unfold xRk; rw [if_pos hz_2]; exact (hf_z_4).symm
          exact EWi hx hb hr hlocks hS (((-1), pl, en, ki, va, ke, u_9.1.2.1, u_9.1.2.2), (0, nm), (), ()) rfl ⟨(show (0 ≤ tp ∧ tp ≤ 900) ∧ (0 ≤ ln ∧ ln ≤ 900) ∧ (0 ≤ pl ∧ pl ≤ en) ∧ (en ≤ ln) ∧ (0 ≤ ki ∧ ki ≤ 4) ∧ (-2147483648 ≤ va ∧ va < 2147483648) ∧ (-1 ≤ ke ∧ ke ≤ 24) from (by first | with_reducible assumption | exact ⟨⟨by omega, by omega⟩, ⟨by omega, by omega⟩, ⟨by omega, by omega⟩, by omega, ⟨by omega, by omega⟩, ⟨by omega, by omega⟩, by omega, by omega⟩)), (show (¬ ((-1) : Int) = -1 ∧ ∃ q9 : Int, xTr (tX bf ln) N n w cu = .inr (q9, (-1)) ∧ cu < q9 ∧ RDX (tX bf ln) q9 pl en ki va ke nm ∧ (0 ≤ (-1) ∧ (-1) < n) ∧ u_9.1.2.1 = fk ∧ u_9.1.2.2 = fp) ∨ (((-1) : Int) = -1 ∧ xTr (tX bf ln) N n w cu = .inl (u_9.1.2.1, u_9.1.2.2)) from (Or.inr ⟨rfl, by unfold xTr xEr; first | (rw [if_pos (show xRk (tX bf ln) N n cu = -1 from (by omega)), if_pos hz_2, p_10.1, p_10.2]; done) | (rw [if_neg (show ¬ xRk (tX bf ln) N n cu = -1 from (by omega)), if_pos (show xRk (tX bf ln) N n cu = w from (by omega)), p_10.1, p_10.2]; done)⟩))⟩ (hP.sub [2, 3, 4, 0, 1] rfl) (hD.sub [2, 3, 4, 0, 1] rfl rfl) dX4_takeRock_61
        ·
          subst qz_7
          exact absurd hz_2 hz_7
      ·
        have c_6 := (zeq (x := iZ z_4) (y := iZ (-1)) rfl rfl ⟨by omega, by omega⟩ wn_m1).mp c_6
        refine lv_iconst (v := iZ 3) hx hb dX4_takeRock_35 rfl ?_
        refine lv_goto (tgt := 40) hx hb dX4_takeRock_36 rfl ?_
        refine lv_istore (lv' := [(4, .int (iZ 3)), (3, .int (iZ z_4)), (0, .ref hr1), (1, .ref hs), (2, .int (iZ w))]) hx hb dX4_takeRock_40 hl (bl rfl) rfl (fun ls hl => ?_)
        refine lv_aload_n hx hb dX4_takeRock_42 rfl (lv_at hl 2 rfl) ?_
        refine lv_aload_n hx hb dX4_takeRock_43 rfl (lv_at hl 2 rfl) ?_
        refine CPV (As := []) (rest := [.ref hr1]) hx hb hml hown hts hKK (hP.sub (ws' := [(hr1, .inr (4, [.ref tx, .ref kw, .int (iZ tp), .int (iZ ln), .int (iZ pl), .int (iZ en), .int (iZ ki), .int (iZ va), .int (iZ ke), .long nm, .int (iZ fk), .int (iZ fp)])), (tx, .inl (k 0, 900, .inl bf))]) [0, 1] rfl) (x_isName l D k hr1 tx kw tp ln pl en ki va ke fk fp nm bf cu (by first | with_reducible assumption | exact ⟨⟨by omega, by omega⟩, ⟨by omega, by omega⟩, ⟨by omega, by omega⟩, by omega, ⟨by omega, by omega⟩, ⟨by omega, by omega⟩, by omega, by omega⟩) hrx) ci_X4_isName qm_X4_84 ⟨Nat.le_of_ble_eq_true rfl, Nat.le_of_ble_eq_true rfl⟩ ⟨Nat.le_of_ble_eq_true rfl, Nat.le_of_ble_eq_true rfl⟩ 0 rfl rfl rfl hl.1 rfl (Nat.le_of_ble_eq_true rfl) dX4_takeRock_44 (fun z_11 hz_11 => ?_)
        rcases hz_11 with ⟨qz_11, hz_11⟩ | ⟨qz_11, hz_11⟩
        ·
          subst qz_11
          refine lv_if_eq (tgt := 55) hx hb dX4_takeRock_47 rfl (fun c => absurd c (by decide)) (fun _ => ?_)
          refine lv_iload hx hb dX4_takeRock_50 (lv_at hl 0 rfl) ?_
          refine lv_goto (tgt := 56) hx hb dX4_takeRock_52 rfl ?_
          refine CWV (As := [.int (iZ 3)]) (rest := []) (wc := _) (wr := [(hs, .inr (5, fs)), (hN, .inl (k 2, 6, .inr (.inl nf)))]) hx hb hml hown hts hKK hP hD hS hA (x_fail l D k hr1 tx kw tp ln pl en ki va ke fk fp nm bf kwf cu 3 (by first | with_reducible assumption | exact ⟨⟨by omega, by omega⟩, ⟨by omega, by omega⟩, ⟨by omega, by omega⟩, by omega, ⟨by omega, by omega⟩, ⟨by omega, by omega⟩, by omega, by omega⟩) hrx) ci_X4_fail qm_X4_80 ⟨Nat.le_of_ble_eq_true rfl, Nat.le_of_ble_eq_true rfl⟩ ⟨Nat.le_of_ble_eq_true rfl, Nat.le_of_ble_eq_true rfl⟩ [0, 1, 2] [3, 4] rfl rfl rfl rfl rfl (dj rfl) 0 rfl rfl rfl hl.1 rfl (Nat.le_of_ble_eq_true rfl) dX4_takeRock_56 (fun u_13 H locs hφ hP hD hS => ?_)
          have p_14 : u_13.1.2.1 = xFl (tX bf ln) cu 3 ∧ u_13.1.2.2 = xPl (tX bf ln) cu := hφ
          refine W.eq (g2 := F0 m 59 ls [.int (iZ 0)]) rfl ?_
          refine lv_pop hx hb dX4_takeRock_59 rfl ?_
          refine lv_iconst (v := iZ (-1)) hx hb dX4_takeRock_60 rfl ?_
          have hrk : xRk (tX bf ln) N n cu = z_4 := by unfold xRk; rw [if_pos hz_2]; exact (hf_z_4).symm
          exact EWi hx hb hr hlocks hS (((-1), pl, en, ki, va, ke, u_13.1.2.1, u_13.1.2.2), (0, nm), (), ()) rfl ⟨(show (0 ≤ tp ∧ tp ≤ 900) ∧ (0 ≤ ln ∧ ln ≤ 900) ∧ (0 ≤ pl ∧ pl ≤ en) ∧ (en ≤ ln) ∧ (0 ≤ ki ∧ ki ≤ 4) ∧ (-2147483648 ≤ va ∧ va < 2147483648) ∧ (-1 ≤ ke ∧ ke ≤ 24) from (by first | with_reducible assumption | exact ⟨⟨by omega, by omega⟩, ⟨by omega, by omega⟩, ⟨by omega, by omega⟩, by omega, ⟨by omega, by omega⟩, ⟨by omega, by omega⟩, by omega, by omega⟩)), (show (¬ ((-1) : Int) = -1 ∧ ∃ q9 : Int, xTr (tX bf ln) N n w cu = .inr (q9, (-1)) ∧ cu < q9 ∧ RDX (tX bf ln) q9 pl en ki va ke nm ∧ (0 ≤ (-1) ∧ (-1) < n) ∧ u_13.1.2.1 = fk ∧ u_13.1.2.2 = fp) ∨ (((-1) : Int) = -1 ∧ xTr (tX bf ln) N n w cu = .inl (u_13.1.2.1, u_13.1.2.2)) from (Or.inr ⟨rfl, by unfold xTr xEr; first | (rw [if_pos (show xRk (tX bf ln) N n cu = -1 from (by omega)), if_pos hz_2, p_14.1, p_14.2]; done) | (rw [if_neg (show ¬ xRk (tX bf ln) N n cu = -1 from (by omega)), if_pos (show xRk (tX bf ln) N n cu = w from (by omega)), p_14.1, p_14.2]; done)⟩))⟩ (hP.sub [2, 3, 4, 0, 1] rfl) (hD.sub [2, 3, 4, 0, 1] rfl rfl) dX4_takeRock_61
        ·
          subst qz_11
          exact absurd hz_2 hz_11
    ·
      have c_5 := mt (zeq (x := iZ z_4) (y := iZ (-1)) rfl rfl ⟨by omega, by omega⟩ wn_m1).mpr c_5
      refine lv_iload_n hx hb dX4_takeRock_25 rfl (lv_at hl 0 rfl) ?_
      refine lv_iload_n hx hb dX4_takeRock_26 rfl (lv_at hl 3 rfl) ?_
      refine lv_icmp_ne (tgt := 62) hx hb dX4_takeRock_27 rfl (fun c_15 => ?_) (fun c_15 => ?_)
      ·
        have c_15 := mt (zeq (x := iZ z_4) (y := iZ w) rfl rfl ⟨by omega, by omega⟩ ⟨by omega, by omega⟩).mpr c_15
        refine lv_aload_n hx hb dX4_takeRock_62 rfl (lv_at hl 1 rfl) ?_
        refine CWV (As := []) (rest := []) (wc := _) (wr := [(hs, .inr (5, fs)), (hN, .inl (k 2, 6, .inr (.inl nf)))]) hx hb hml hown hts hKK hP hD hS hA (x_next l D k hr1 tx kw tp ln pl en ki va ke fk fp nm bf kwf ⟨⟨by omega, by omega⟩, ⟨by omega, by omega⟩, by omega, by omega⟩ hbf hkw) ci_X4_next qm_X4_50 ⟨Nat.le_of_ble_eq_true rfl, Nat.le_of_ble_eq_true rfl⟩ ⟨Nat.le_of_ble_eq_true rfl, Nat.le_of_ble_eq_true rfl⟩ [0, 1, 2] [3, 4] rfl rfl rfl rfl rfl (dj rfl) 0 rfl rfl rfl hl.1 rfl (Nat.le_of_ble_eq_true rfl) dX4_takeRock_63 (fun u_16 H locs hφ hP hD hS => ?_)
        obtain ⟨p_17, p_18⟩ : (RDX (tX bf ln) en u_16.1.2.1 u_16.1.2.2.1 u_16.1.2.2.2.1 u_16.1.2.2.2.2.1 u_16.1.2.2.2.2.2 u_16.2.1.2) ∧ ((0 ≤ tp ∧ tp ≤ 900) ∧ (0 ≤ ln ∧ ln ≤ 900) ∧ (0 ≤ u_16.1.2.1 ∧ u_16.1.2.1 ≤ u_16.1.2.2.1) ∧ (u_16.1.2.2.1 ≤ ln) ∧ (0 ≤ u_16.1.2.2.2.1 ∧ u_16.1.2.2.2.1 ≤ 4) ∧ (-2147483648 ≤ u_16.1.2.2.2.2.1 ∧ u_16.1.2.2.2.2.1 < 2147483648) ∧ (-1 ≤ u_16.1.2.2.2.2.2 ∧ u_16.1.2.2.2.2.2 ≤ 24)) := hφ
        have rx_19 := RDX.nx hrx p_17
        obtain ⟨⟨ar_20, br_20⟩, cr_20, dr_20, er_20, fr_20, gr_20, hr_20⟩ := id rx_19
        obtain ⟨t1u_21, t2u_21, t3u_21, t4u_21, t5u_21, t6u_21, t7u_21⟩ := id p_18
        refine W.eq (g2 := F0 m 66 ls []) rfl ?_
        refine lv_iload_n hx hb dX4_takeRock_66 rfl (lv_at hl 0 rfl) ?_
        have hrk : xRk (tX bf ln) N n cu = z_4 := by unfold xRk; rw [if_pos hz_2]; exact (hf_z_4).symm
        exact EWi hx hb hr hlocks hS ((z_4, u_16.1.2.1, u_16.1.2.2.1, u_16.1.2.2.2.1, u_16.1.2.2.2.2.1, u_16.1.2.2.2.2.2, fk, fp), (0, u_16.2.1.2), (), ()) rfl ⟨(show (0 ≤ tp ∧ tp ≤ 900) ∧ (0 ≤ ln ∧ ln ≤ 900) ∧ (0 ≤ u_16.1.2.1 ∧ u_16.1.2.1 ≤ u_16.1.2.2.1) ∧ (u_16.1.2.2.1 ≤ ln) ∧ (0 ≤ u_16.1.2.2.2.1 ∧ u_16.1.2.2.2.1 ≤ 4) ∧ (-2147483648 ≤ u_16.1.2.2.2.2.1 ∧ u_16.1.2.2.2.2.1 < 2147483648) ∧ (-1 ≤ u_16.1.2.2.2.2.2 ∧ u_16.1.2.2.2.2.2 ≤ 24) from (by first | with_reducible assumption | exact ⟨⟨by omega, by omega⟩, ⟨by omega, by omega⟩, ⟨by omega, by omega⟩, by omega, ⟨by omega, by omega⟩, ⟨by omega, by omega⟩, by omega, by omega⟩)), (show (¬ (z_4 : Int) = -1 ∧ ∃ q9 : Int, xTr (tX bf ln) N n w cu = .inr (q9, z_4) ∧ cu < q9 ∧ RDX (tX bf ln) q9 u_16.1.2.1 u_16.1.2.2.1 u_16.1.2.2.2.1 u_16.1.2.2.2.2.1 u_16.1.2.2.2.2.2 u_16.2.1.2 ∧ (0 ≤ z_4 ∧ z_4 < n) ∧ fk = fk ∧ fp = fp) ∨ ((z_4 : Int) = -1 ∧ xTr (tX bf ln) N n w cu = .inl (fk, fp)) from (Or.inl ⟨by omega, xEn (tX bf ln) cu, by unfold xTr; rw [if_neg (show ¬ xRk (tX bf ln) N n cu = -1 from (by omega)), if_neg (show ¬ xRk (tX bf ln) N n cu = w from (by omega)), hrk], by have := hz_2.1; omega, rx_19, ⟨by omega, by omega⟩, rfl, rfl⟩))⟩ (hP.sub [2, 3, 4, 0, 1] rfl) (hD.sub [2, 3, 4, 0, 1] rfl rfl) dX4_takeRock_67
      ·
        have c_15 := (zeq (x := iZ z_4) (y := iZ w) rfl rfl ⟨by omega, by omega⟩ ⟨by omega, by omega⟩).mp c_15
        refine lv_iload_n hx hb dX4_takeRock_30 rfl (lv_at hl 0 rfl) ?_
        refine lv_iconst (v := iZ (-1)) hx hb dX4_takeRock_31 rfl ?_
        refine lv_icmp_ne (tgt := 39) hx hb dX4_takeRock_32 rfl (fun c_22 => ?_) (fun c_22 => ?_)
        ·
          have c_22 := mt (zeq (x := iZ z_4) (y := iZ (-1)) rfl rfl ⟨by omega, by omega⟩ wn_m1).mpr c_22
          refine lv_iconst (v := iZ 5) hx hb dX4_takeRock_39 rfl ?_
          refine lv_istore (lv' := [(4, .int (iZ 5)), (3, .int (iZ z_4)), (0, .ref hr1), (1, .ref hs), (2, .int (iZ w))]) hx hb dX4_takeRock_40 hl (bl rfl) rfl (fun ls hl => ?_)
          refine lv_aload_n hx hb dX4_takeRock_42 rfl (lv_at hl 2 rfl) ?_
          refine lv_aload_n hx hb dX4_takeRock_43 rfl (lv_at hl 2 rfl) ?_
          refine CPV (As := []) (rest := [.ref hr1]) hx hb hml hown hts hKK (hP.sub (ws' := [(hr1, .inr (4, [.ref tx, .ref kw, .int (iZ tp), .int (iZ ln), .int (iZ pl), .int (iZ en), .int (iZ ki), .int (iZ va), .int (iZ ke), .long nm, .int (iZ fk), .int (iZ fp)])), (tx, .inl (k 0, 900, .inl bf))]) [0, 1] rfl) (x_isName l D k hr1 tx kw tp ln pl en ki va ke fk fp nm bf cu (by first | with_reducible assumption | exact ⟨⟨by omega, by omega⟩, ⟨by omega, by omega⟩, ⟨by omega, by omega⟩, by omega, ⟨by omega, by omega⟩, ⟨by omega, by omega⟩, by omega, by omega⟩) hrx) ci_X4_isName qm_X4_84 ⟨Nat.le_of_ble_eq_true rfl, Nat.le_of_ble_eq_true rfl⟩ ⟨Nat.le_of_ble_eq_true rfl, Nat.le_of_ble_eq_true rfl⟩ 0 rfl rfl rfl hl.1 rfl (Nat.le_of_ble_eq_true rfl) dX4_takeRock_44 (fun z_23 hz_23 => ?_)
          rcases hz_23 with ⟨qz_23, hz_23⟩ | ⟨qz_23, hz_23⟩
          ·
            subst qz_23
            refine lv_if_eq (tgt := 55) hx hb dX4_takeRock_47 rfl (fun c => absurd c (by decide)) (fun _ => ?_)
            refine lv_iload hx hb dX4_takeRock_50 (lv_at hl 0 rfl) ?_
            refine lv_goto (tgt := 56) hx hb dX4_takeRock_52 rfl ?_
            refine CWV (As := [.int (iZ 5)]) (rest := []) (wc := _) (wr := [(hs, .inr (5, fs)), (hN, .inl (k 2, 6, .inr (.inl nf)))]) hx hb hml hown hts hKK hP hD hS hA (x_fail l D k hr1 tx kw tp ln pl en ki va ke fk fp nm bf kwf cu 5 (by first | with_reducible assumption | exact ⟨⟨by omega, by omega⟩, ⟨by omega, by omega⟩, ⟨by omega, by omega⟩, by omega, ⟨by omega, by omega⟩, ⟨by omega, by omega⟩, by omega, by omega⟩) hrx) ci_X4_fail qm_X4_80 ⟨Nat.le_of_ble_eq_true rfl, Nat.le_of_ble_eq_true rfl⟩ ⟨Nat.le_of_ble_eq_true rfl, Nat.le_of_ble_eq_true rfl⟩ [0, 1, 2] [3, 4] rfl rfl rfl rfl rfl (dj rfl) 0 rfl rfl rfl hl.1 rfl (Nat.le_of_ble_eq_true rfl) dX4_takeRock_56 (fun u_25 H locs hφ hP hD hS => ?_)
            have p_26 : u_25.1.2.1 = xFl (tX bf ln) cu 5 ∧ u_25.1.2.2 = xPl (tX bf ln) cu := hφ
            refine W.eq (g2 := F0 m 59 ls [.int (iZ 0)]) rfl ?_
            refine lv_pop hx hb dX4_takeRock_59 rfl ?_
            refine lv_iconst (v := iZ (-1)) hx hb dX4_takeRock_60 rfl ?_
            have hrk : xRk (tX bf ln) N n cu = z_4 := by unfold xRk; rw [if_pos hz_2]; exact (hf_z_4).symm
            exact EWi hx hb hr hlocks hS (((-1), pl, en, ki, va, ke, u_25.1.2.1, u_25.1.2.2), (0, nm), (), ()) rfl ⟨(show (0 ≤ tp ∧ tp ≤ 900) ∧ (0 ≤ ln ∧ ln ≤ 900) ∧ (0 ≤ pl ∧ pl ≤ en) ∧ (en ≤ ln) ∧ (0 ≤ ki ∧ ki ≤ 4) ∧ (-2147483648 ≤ va ∧ va < 2147483648) ∧ (-1 ≤ ke ∧ ke ≤ 24) from (by first | with_reducible assumption | exact ⟨⟨by omega, by omega⟩, ⟨by omega, by omega⟩, ⟨by omega, by omega⟩, by omega, ⟨by omega, by omega⟩, ⟨by omega, by omega⟩, by omega, by omega⟩)), (show (¬ ((-1) : Int) = -1 ∧ ∃ q9 : Int, xTr (tX bf ln) N n w cu = .inr (q9, (-1)) ∧ cu < q9 ∧ RDX (tX bf ln) q9 pl en ki va ke nm ∧ (0 ≤ (-1) ∧ (-1) < n) ∧ u_25.1.2.1 = fk ∧ u_25.1.2.2 = fp) ∨ (((-1) : Int) = -1 ∧ xTr (tX bf ln) N n w cu = .inl (u_25.1.2.1, u_25.1.2.2)) from (Or.inr ⟨rfl, by unfold xTr xEr; first | (rw [if_pos (show xRk (tX bf ln) N n cu = -1 from (by omega)), if_pos hz_2, p_26.1, p_26.2]; done) | (rw [if_neg (show ¬ xRk (tX bf ln) N n cu = -1 from (by omega)), if_pos (show xRk (tX bf ln) N n cu = w from (by omega)), p_26.1, p_26.2]; done)⟩))⟩ (hP.sub [2, 3, 4, 0, 1] rfl) (hD.sub [2, 3, 4, 0, 1] rfl rfl) dX4_takeRock_61
          ·
            subst qz_23
            exact absurd hz_2 hz_23
        ·
          have c_22 := (zeq (x := iZ z_4) (y := iZ (-1)) rfl rfl ⟨by omega, by omega⟩ wn_m1).mp c_22
          refine lv_iconst (v := iZ 3) hx hb dX4_takeRock_35 rfl ?_
          refine lv_goto (tgt := 40) hx hb dX4_takeRock_36 rfl ?_
          refine lv_istore (lv' := [(4, .int (iZ 3)), (3, .int (iZ z_4)), (0, .ref hr1), (1, .ref hs), (2, .int (iZ w))]) hx hb dX4_takeRock_40 hl (bl rfl) rfl (fun ls hl => ?_)
          refine lv_aload_n hx hb dX4_takeRock_42 rfl (lv_at hl 2 rfl) ?_
          refine lv_aload_n hx hb dX4_takeRock_43 rfl (lv_at hl 2 rfl) ?_
          refine CPV (As := []) (rest := [.ref hr1]) hx hb hml hown hts hKK (hP.sub (ws' := [(hr1, .inr (4, [.ref tx, .ref kw, .int (iZ tp), .int (iZ ln), .int (iZ pl), .int (iZ en), .int (iZ ki), .int (iZ va), .int (iZ ke), .long nm, .int (iZ fk), .int (iZ fp)])), (tx, .inl (k 0, 900, .inl bf))]) [0, 1] rfl) (x_isName l D k hr1 tx kw tp ln pl en ki va ke fk fp nm bf cu (by first | with_reducible assumption | exact ⟨⟨by omega, by omega⟩, ⟨by omega, by omega⟩, ⟨by omega, by omega⟩, by omega, ⟨by omega, by omega⟩, ⟨by omega, by omega⟩, by omega, by omega⟩) hrx) ci_X4_isName qm_X4_84 ⟨Nat.le_of_ble_eq_true rfl, Nat.le_of_ble_eq_true rfl⟩ ⟨Nat.le_of_ble_eq_true rfl, Nat.le_of_ble_eq_true rfl⟩ 0 rfl rfl rfl hl.1 rfl (Nat.le_of_ble_eq_true rfl) dX4_takeRock_44 (fun z_27 hz_27 => ?_)
          rcases hz_27 with ⟨qz_27, hz_27⟩ | ⟨qz_27, hz_27⟩
          ·
            subst qz_27
            refine lv_if_eq (tgt := 55) hx hb dX4_takeRock_47 rfl (fun c => absurd c (by decide)) (fun _ => ?_)
            refine lv_iload hx hb dX4_takeRock_50 (lv_at hl 0 rfl) ?_
            refine lv_goto (tgt := 56) hx hb dX4_takeRock_52 rfl ?_
            refine CWV (As := [.int (iZ 3)]) (rest := []) (wc := _) (wr := [(hs, .inr (5, fs)), (hN, .inl (k 2, 6, .inr (.inl nf)))]) hx hb hml hown hts hKK hP hD hS hA (x_fail l D k hr1 tx kw tp ln pl en ki va ke fk fp nm bf kwf cu 3 (by first | with_reducible assumption | exact ⟨⟨by omega, by omega⟩, ⟨by omega, by omega⟩, ⟨by omega, by omega⟩, by omega, ⟨by omega, by omega⟩, ⟨by omega, by omega⟩, by omega, by omega⟩) hrx) ci_X4_fail qm_X4_80 ⟨Nat.le_of_ble_eq_true rfl, Nat.le_of_ble_eq_true rfl⟩ ⟨Nat.le_of_ble_eq_true rfl, Nat.le_of_ble_eq_true rfl⟩ [0, 1, 2] [3, 4] rfl rfl rfl rfl rfl (dj rfl) 0 rfl rfl rfl hl.1 rfl (Nat.le_of_ble_eq_true rfl) dX4_takeRock_56 (fun u_29 H locs hφ hP hD hS => ?_)
            have p_30 : u_29.1.2.1 = xFl (tX bf ln) cu 3 ∧ u_29.1.2.2 = xPl (tX bf ln) cu := hφ
            refine W.eq (g2 := F0 m 59 ls [.int (iZ 0)]) rfl ?_
            refine lv_pop hx hb dX4_takeRock_59 rfl ?_
            refine lv_iconst (v := iZ (-1)) hx hb dX4_takeRock_60 rfl ?_
            have hrk : xRk (tX bf ln) N n cu = z_4 := by unfold xRk; rw [if_pos hz_2]; exact (hf_z_4).symm
            exact EWi hx hb hr hlocks hS (((-1), pl, en, ki, va, ke, u_29.1.2.1, u_29.1.2.2), (0, nm), (), ()) rfl ⟨(show (0 ≤ tp ∧ tp ≤ 900) ∧ (0 ≤ ln ∧ ln ≤ 900) ∧ (0 ≤ pl ∧ pl ≤ en) ∧ (en ≤ ln) ∧ (0 ≤ ki ∧ ki ≤ 4) ∧ (-2147483648 ≤ va ∧ va < 2147483648) ∧ (-1 ≤ ke ∧ ke ≤ 24) from (by first | with_reducible assumption | exact ⟨⟨by omega, by omega⟩, ⟨by omega, by omega⟩, ⟨by omega, by omega⟩, by omega, ⟨by omega, by omega⟩, ⟨by omega, by omega⟩, by omega, by omega⟩)), (show (¬ ((-1) : Int) = -1 ∧ ∃ q9 : Int, xTr (tX bf ln) N n w cu = .inr (q9, (-1)) ∧ cu < q9 ∧ RDX (tX bf ln) q9 pl en ki va ke nm ∧ (0 ≤ (-1) ∧ (-1) < n) ∧ u_29.1.2.1 = fk ∧ u_29.1.2.2 = fp) ∨ (((-1) : Int) = -1 ∧ xTr (tX bf ln) N n w cu = .inl (u_29.1.2.1, u_29.1.2.2)) from (Or.inr ⟨rfl, by unfold xTr xEr; first | (rw [if_pos (show xRk (tX bf ln) N n cu = -1 from (by omega)), if_pos hz_2, p_30.1, p_30.2]; done) | (rw [if_neg (show ¬ xRk (tX bf ln) N n cu = -1 from (by omega)), if_pos (show xRk (tX bf ln) N n cu = w from (by omega)), p_30.1, p_30.2]; done)⟩))⟩ (hP.sub [2, 3, 4, 0, 1] rfl) (hD.sub [2, 3, 4, 0, 1] rfl rfl) dX4_takeRock_61
          ·
            subst qz_27
            exact absurd hz_2 hz_27
  ·
    subst qz_2
    refine lv_if_eq (tgt := 18) hx hb dX4_takeRock_4 rfl (fun _ => ?_) (fun c => absurd (by decide) c)
    refine lv_iconst (v := iZ (-1)) hx hb dX4_takeRock_18 rfl ?_
    refine lv_istore_n (lv' := [(3, .int (iZ (-1))), (0, .ref hr1), (1, .ref hs), (2, .int (iZ w))]) hx hb dX4_takeRock_19 rfl hl (bl rfl) rfl (fun ls hl => ?_)
    refine lv_iload_n hx hb dX4_takeRock_20 rfl (lv_at hl 0 rfl) ?_
    refine lv_iconst (v := iZ (-1)) hx hb dX4_takeRock_21 rfl ?_
    refine lv_icmp_eq (tgt := 30) hx hb dX4_takeRock_22 rfl (fun _ => ?_) (fun c => absurd (by decide) c)
    refine lv_iload_n hx hb dX4_takeRock_30 rfl (lv_at hl 0 rfl) ?_
    refine lv_iconst (v := iZ (-1)) hx hb dX4_takeRock_31 rfl ?_
    refine lv_icmp_ne (tgt := 39) hx hb dX4_takeRock_32 rfl (fun c => absurd (by decide) c) (fun _ => ?_)
    refine lv_iconst (v := iZ 3) hx hb dX4_takeRock_35 rfl ?_
    refine lv_goto (tgt := 40) hx hb dX4_takeRock_36 rfl ?_
    refine lv_istore (lv' := [(4, .int (iZ 3)), (3, .int (iZ (-1))), (0, .ref hr1), (1, .ref hs), (2, .int (iZ w))]) hx hb dX4_takeRock_40 hl (bl rfl) rfl (fun ls hl => ?_)
    refine lv_aload_n hx hb dX4_takeRock_42 rfl (lv_at hl 2 rfl) ?_
    refine lv_aload_n hx hb dX4_takeRock_43 rfl (lv_at hl 2 rfl) ?_
    refine CPV (As := []) (rest := [.ref hr1]) hx hb hml hown hts hKK (hP.sub (ws' := [(hr1, .inr (4, [.ref tx, .ref kw, .int (iZ tp), .int (iZ ln), .int (iZ pl), .int (iZ en), .int (iZ ki), .int (iZ va), .int (iZ ke), .long nm, .int (iZ fk), .int (iZ fp)])), (tx, .inl (k 0, 900, .inl bf))]) [0, 1] rfl) (x_isName l D k hr1 tx kw tp ln pl en ki va ke fk fp nm bf cu (by first | with_reducible assumption | exact ⟨⟨by omega, by omega⟩, ⟨by omega, by omega⟩, ⟨by omega, by omega⟩, by omega, ⟨by omega, by omega⟩, ⟨by omega, by omega⟩, by omega, by omega⟩) hrx) ci_X4_isName qm_X4_84 ⟨Nat.le_of_ble_eq_true rfl, Nat.le_of_ble_eq_true rfl⟩ ⟨Nat.le_of_ble_eq_true rfl, Nat.le_of_ble_eq_true rfl⟩ 0 rfl rfl rfl hl.1 rfl (Nat.le_of_ble_eq_true rfl) dX4_takeRock_44 (fun z_34 hz_34 => ?_)
    rcases hz_34 with ⟨qz_34, hz_34⟩ | ⟨qz_34, hz_34⟩
    ·
      subst qz_34
      exact absurd hz_34 hz_2
    ·
      subst qz_34
      refine lv_if_eq (tgt := 55) hx hb dX4_takeRock_47 rfl (fun _ => ?_) (fun c => absurd (by decide) c)
      refine lv_iconst (v := iZ 2) hx hb dX4_takeRock_55 rfl ?_
      refine CWV (As := [.int (iZ 2)]) (rest := []) (wc := _) (wr := [(hs, .inr (5, fs)), (hN, .inl (k 2, 6, .inr (.inl nf)))]) hx hb hml hown hts hKK hP hD hS hA (x_fail l D k hr1 tx kw tp ln pl en ki va ke fk fp nm bf kwf cu 2 (by first | with_reducible assumption | exact ⟨⟨by omega, by omega⟩, ⟨by omega, by omega⟩, ⟨by omega, by omega⟩, by omega, ⟨by omega, by omega⟩, ⟨by omega, by omega⟩, by omega, by omega⟩) hrx) ci_X4_fail qm_X4_80 ⟨Nat.le_of_ble_eq_true rfl, Nat.le_of_ble_eq_true rfl⟩ ⟨Nat.le_of_ble_eq_true rfl, Nat.le_of_ble_eq_true rfl⟩ [0, 1, 2] [3, 4] rfl rfl rfl rfl rfl (dj rfl) 0 rfl rfl rfl hl.1 rfl (Nat.le_of_ble_eq_true rfl) dX4_takeRock_56 (fun u_36 H locs hφ hP hD hS => ?_)
      have p_37 : u_36.1.2.1 = xFl (tX bf ln) cu 2 ∧ u_36.1.2.2 = xPl (tX bf ln) cu := hφ
      refine W.eq (g2 := F0 m 59 ls [.int (iZ 0)]) rfl ?_
      refine lv_pop hx hb dX4_takeRock_59 rfl ?_
      refine lv_iconst (v := iZ (-1)) hx hb dX4_takeRock_60 rfl ?_
      have hrk : xRk (tX bf ln) N n cu = -1 := by unfold xRk; rw [if_neg hz_2]
      exact EWi hx hb hr hlocks hS (((-1), pl, en, ki, va, ke, u_36.1.2.1, u_36.1.2.2), (0, nm), (), ()) rfl ⟨(show (0 ≤ tp ∧ tp ≤ 900) ∧ (0 ≤ ln ∧ ln ≤ 900) ∧ (0 ≤ pl ∧ pl ≤ en) ∧ (en ≤ ln) ∧ (0 ≤ ki ∧ ki ≤ 4) ∧ (-2147483648 ≤ va ∧ va < 2147483648) ∧ (-1 ≤ ke ∧ ke ≤ 24) from (by first | with_reducible assumption | exact ⟨⟨by omega, by omega⟩, ⟨by omega, by omega⟩, ⟨by omega, by omega⟩, by omega, ⟨by omega, by omega⟩, ⟨by omega, by omega⟩, by omega, by omega⟩)), (show (¬ ((-1) : Int) = -1 ∧ ∃ q9 : Int, xTr (tX bf ln) N n w cu = .inr (q9, (-1)) ∧ cu < q9 ∧ RDX (tX bf ln) q9 pl en ki va ke nm ∧ (0 ≤ (-1) ∧ (-1) < n) ∧ u_36.1.2.1 = fk ∧ u_36.1.2.2 = fp) ∨ (((-1) : Int) = -1 ∧ xTr (tX bf ln) N n w cu = .inl (u_36.1.2.1, u_36.1.2.2)) from (Or.inr ⟨rfl, by unfold xTr xEr; rw [if_pos hrk, if_neg hz_2, p_37.1, p_37.2]⟩))⟩ (hP.sub [2, 3, 4, 0, 1] rfl) (hD.sub [2, 3, 4, 0, 1] rfl rfl) dX4_takeRock_61
set_option maxHeartbeats 4000000 in
set_option maxRecDepth 100000 in
theorem x_readNewName (l : Launch) (D : va_G) (k : Nat → ClassId) (hq : Nat) (hr1 : Nat) (tx : Nat) (kw : Nat) (lt : Int) (tp : Int) (ln : Int) (pl : Int) (en : Int) (ki : Int) (va : Int) (ke : Int) (fk : Int) (fp : Int) (nm : Int64) (bf : Nat → Int32) (kwf : Nat → Int64) (hs : Nat) (hN : Nat) (hf : Nat) (hg : Nat) (n : Int) (ni : Int) (lw : Int) (we : Int) (nf : Nat → Int64) (f : Nat → Int32) (g : Nat → Int32) (cu : Int) (N : Int → Int) (hI1 : (0 ≤ tp ∧ tp ≤ 900) ∧ (0 ≤ ln ∧ ln ≤ 900) ∧ (0 ≤ pl ∧ pl ≤ en) ∧ (en ≤ ln) ∧ (0 ≤ ki ∧ ki ≤ 4) ∧ (-2147483648 ≤ va ∧ va < 2147483648) ∧ (-1 ≤ ke ∧ ke ≤ 24)) (hbf : rgI bf (-128) 127 900) (hkw : ∀ j : Nat, j < 25 → kwf j = lZ (kwC j)) (hrx : RDX (tX bf ln) cu pl en ki va ke nm) (hn : 0 ≤ n ∧ n < 6) (hns : xNs nf N n) : WD (σ := ((Int × Int × Int × Int × Int × Int × Int × Int) × (Int64 × Int64) × (Unit) × ((Nat → Int64)))) l yX6_readNewName cX6_readNewName 2 (some .boolean) 3 0 0 D k [.ref hq, .int (iZ n)] [(hq, .inr (6, [.ref hr1, .ref hs, .int (iZ lt)])), (hr1, .inr (4, [.ref tx, .ref kw, .int (iZ tp), .int (iZ ln), .int (iZ pl), .int (iZ en), .int (iZ ki), .int (iZ va), .int (iZ ke), .long nm, .int (iZ fk), .int (iZ fp)])), (tx, .inl (k 0, 900, .inl bf)), (kw, .inl (k 2, 25, .inr (.inl kwf))), (hs, .inr (5, [.ref hN, .ref hf, .ref hg, .int (iZ n), .int (iZ ni), .int (iZ lw), .int (iZ we)])), (hN, .inl (k 2, 6, .inr (.inl nf))), (hf, .inl (k 1, 36, .inl f)), (hg, .inl (k 1, 32, .inl g))] (fun u => some (.int (iZ u.1.1))) (fun u => ((0 ≤ tp ∧ tp ≤ 900) ∧ (0 ≤ ln ∧ ln ≤ 900) ∧ (0 ≤ u.1.2.1 ∧ u.1.2.1 ≤ u.1.2.2.1) ∧ (u.1.2.2.1 ≤ ln) ∧ (0 ≤ u.1.2.2.2.1 ∧ u.1.2.2.2.1 ≤ 4) ∧ (-2147483648 ≤ u.1.2.2.2.2.1 ∧ u.1.2.2.2.2.1 < 2147483648) ∧ (-1 ≤ u.1.2.2.2.2.2.1 ∧ u.1.2.2.2.2.2.1 ≤ 24)) ∧ (((u.1.1 : Int) = 1 ∧ ∃ q9 : Int, xNn (tX bf ln) N n cu = .inr q9 ∧ cu < q9 ∧ RDX (tX bf ln) q9 u.1.2.1 u.1.2.2.1 u.1.2.2.2.1 u.1.2.2.2.2.1 u.1.2.2.2.2.2.1 u.2.1.2 ∧ xNs u.2.2.2 (xUp N n (xNm (tX bf ln) cu)) (n + 1) ∧ u.1.2.2.2.2.2.2.1 = fk ∧ u.1.2.2.2.2.2.2.2 = fp) ∨ ((u.1.1 : Int) = 0 ∧ xNn (tX bf ln) N n cu = .inl (u.1.2.2.2.2.2.2.1, u.1.2.2.2.2.2.2.2)))) (fun u => [(hq, .inr (6, [.ref hr1, .ref hs, .int (iZ lt)])), (hr1, .inr (4, [.ref tx, .ref kw, .int (iZ tp), .int (iZ ln), .int (iZ u.1.2.1), .int (iZ u.1.2.2.1), .int (iZ u.1.2.2.2.1), .int (iZ u.1.2.2.2.2.1), .int (iZ u.1.2.2.2.2.2.1), .long u.2.1.2, .int (iZ u.1.2.2.2.2.2.2.1), .int (iZ u.1.2.2.2.2.2.2.2)])), (tx, .inl (k 0, 900, .inl bf)), (kw, .inl (k 2, 25, .inr (.inl kwf))), (hs, .inr (5, [.ref hN, .ref hf, .ref hg, .int (iZ n), .int (iZ ni), .int (iZ lw), .int (iZ we)])), (hN, .inl (k 2, 6, .inr (.inl u.2.2.2))), (hf, .inl (k 1, 36, .inl f)), (hg, .inl (k 1, 32, .inl g))]) := by
  refine MW (by decide) (Nat.le_of_ble_eq_true rfl) (fun p e s m below meth c ls A hx hb hml hr hlocks hin hts hown hKK hP hD hS hA hl => ?_)
  have hK := hKK.1
  have hl : lv_has ls 2 [(0, .ref hq), (1, .int (iZ n))] := hl
  obtain ⟨⟨ar_1, br_1⟩, cr_1, dr_1, er_1, fr_1, gr_1, hr_1⟩ := id hrx
  refine lv_aload_n hx hb dX6_readNewName_0 rfl (lv_at hl 0 rfl) ?_
  refine va_get (D := D) (ci := 6) (v := .ref hr1) (C := RX6) (T := TX6) (N := 3) hx hb hts iX6 hown hK hP 0 rfl rfl 0 (bl rfl) (hts _ qf_X6_9) (fun _ h => h) rfl dX6_readNewName_1 ?_
  refine CPV (As := []) (rest := []) hx hb hml hown hts hKK (hP.sub (ws' := [(hr1, .inr (4, [.ref tx, .ref kw, .int (iZ tp), .int (iZ ln), .int (iZ pl), .int (iZ en), .int (iZ ki), .int (iZ va), .int (iZ ke), .long nm, .int (iZ fk), .int (iZ fp)])), (tx, .inl (k 0, 900, .inl bf))]) [1, 2] rfl) (x_isName l D k hr1 tx kw tp ln pl en ki va ke fk fp nm bf cu (by first | with_reducible assumption | exact ⟨⟨by omega, by omega⟩, ⟨by omega, by omega⟩, ⟨by omega, by omega⟩, by omega, ⟨by omega, by omega⟩, ⟨by omega, by omega⟩, by omega, by omega⟩) hrx) ci_X4_isName qm_X6_70 ⟨Nat.le_of_ble_eq_true rfl, Nat.le_of_ble_eq_true rfl⟩ ⟨Nat.le_of_ble_eq_true rfl, Nat.le_of_ble_eq_true rfl⟩ 0 rfl rfl rfl hl.1 rfl (Nat.le_of_ble_eq_true rfl) dX6_readNewName_4 (fun z_2 hz_2 => ?_)
  rcases hz_2 with ⟨qz_2, hz_2⟩ | ⟨qz_2, hz_2⟩
  ·
    subst qz_2
    refine lv_if_ne (tgt := 19) hx hb dX6_readNewName_7 rfl (fun _ => ?_) (fun c => absurd c (by decide))
    refine lv_aload_n hx hb dX6_readNewName_19 rfl (lv_at hl 0 rfl) ?_
    refine va_get (D := D) (ci := 6) (v := .ref hs) (C := RX6) (T := TX6) (N := 3) hx hb hts iX6 hown hK hP 0 rfl rfl 1 (bl rfl) (hts _ qf_X6_15) (fun _ h => h) rfl dX6_readNewName_20 ?_
    refine lv_aload_n hx hb dX6_readNewName_23 rfl (lv_at hl 0 rfl) ?_
    refine va_get (D := D) (ci := 6) (v := .ref hr1) (C := RX6) (T := TX6) (N := 3) hx hb hts iX6 hown hK hP 0 rfl rfl 0 (bl rfl) (hts _ qf_X6_9) (fun _ h => h) rfl dX6_readNewName_24 ?_
    refine va_get (D := D) (ci := 4) (v := .long nm) (C := RX4) (T := TX4) (N := 12) hx hb hts iX4 hown hK hP 1 rfl rfl 9 (bl rfl) (hts _ qf_X6_73) (fun _ h => h) rfl dX6_readNewName_27 ?_
    refine CPV (As := [.long nm]) (rest := []) hx hb hml hown hts hKK (hP.sub (ws' := [(hs, .inr (5, [.ref hN, .ref hf, .ref hg, .int (iZ n), .int (iZ ni), .int (iZ lw), .int (iZ we)])), (hN, .inl (k 2, 6, .inr (.inl nf)))]) [4, 5] rfl) (k_named l D k hs hN [.ref hN, .ref hf, .ref hg, .int (iZ n), .int (iZ ni), .int (iZ lw), .int (iZ we)] rfl nf n rfl ⟨by omega, by omega⟩ nm) ci_X5_named qm_X6_77 ⟨Nat.le_of_ble_eq_true rfl, Nat.le_of_ble_eq_true rfl⟩ ⟨Nat.le_of_ble_eq_true rfl, Nat.le_of_ble_eq_true rfl⟩ 0 rfl rfl rfl hl.1 rfl (Nat.le_of_ble_eq_true rfl) dX6_readNewName_30 (fun z_4 hz_4 => ?_)
    have hm_z_4 := nm_rg hz_4
    have hf_z_4 := isNm_fn (N := N) hns (gr_1 (by omega)).1 (xNm_rg (gr_1 (by omega)).2 (by omega)) hz_4
    refine lv_iconst (v := iZ (-1)) hx hb dX6_readNewName_33 rfl ?_
    refine lv_icmp_eq (tgt := 46) hx hb dX6_readNewName_34 rfl (fun c_5 => ?_) (fun c_5 => ?_)
    ·
      have c_5 := (zeq (x := iZ z_4) (y := iZ (-1)) rfl rfl ⟨by omega, by omega⟩ wn_m1).mp c_5
      refine lv_aload_n hx hb dX6_readNewName_46 rfl (lv_at hl 0 rfl) ?_
      refine va_get (D := D) (ci := 6) (v := .ref hs) (C := RX6) (T := TX6) (N := 3) hx hb hts iX6 hown hK hP 0 rfl rfl 1 (bl rfl) (hts _ qf_X6_15) (fun _ h => h) rfl dX6_readNewName_47 ?_
      refine va_get (D := D) (ci := 5) (v := .ref hN) (C := RX5) (T := TX5) (N := 7) hx hb hts iX5 hown hK hP 4 rfl rfl 0 (bl rfl) (hts _ qf_X6_81) (fun _ h => h) rfl dX6_readNewName_50 ?_
      refine lv_iload_n hx hb dX6_readNewName_53 rfl (lv_at hl 1 rfl) ?_
      refine lv_aload_n hx hb dX6_readNewName_54 rfl (lv_at hl 0 rfl) ?_
      refine va_get (D := D) (ci := 6) (v := .ref hr1) (C := RX6) (T := TX6) (N := 3) hx hb hts iX6 hown hK hP 0 rfl rfl 0 (bl rfl) (hts _ qf_X6_9) (fun _ h => h) rfl dX6_readNewName_55 ?_
      refine va_get (D := D) (ci := 4) (v := .long nm) (C := RX4) (T := TX4) (N := 12) hx hb hts iX4 hown hK hP 1 rfl rfl 9 (bl rfl) (hts _ qf_X6_73) (fun _ h => h) rfl dX6_readNewName_58 ?_
      refine va_last hx hb hK hP hD hS 5 2 rfl rfl (zin (e := n) (n := 6) ⟨by omega, by omega⟩ (bl rfl)) dX6_readNewName_61 (fun H locs hP hD hS => ?_)
      obtain ⟨f_6, hf_6⟩ : ∃ gg9, gg9 = vp_updL nf (iZ n).toNatClampNeg nm := ⟨_, rfl⟩
      rw [← hf_6] at hP hD
      refine lv_aload_n hx hb dX6_readNewName_62 rfl (lv_at hl 0 rfl) ?_
      refine va_get (D := D) (ci := 6) (v := .ref hr1) (C := RX6) (T := TX6) (N := 3) hx hb hts iX6 hown hK hP 0 rfl rfl 0 (bl rfl) (hts _ qf_X6_9) (fun _ h => h) rfl dX6_readNewName_63 ?_
      refine CWV (As := []) (rest := []) (wc := _) (wr := [(hq, .inr (6, [.ref hr1, .ref hs, .int (iZ lt)])), (hs, .inr (5, [.ref hN, .ref hf, .ref hg, .int (iZ n), .int (iZ ni), .int (iZ lw), .int (iZ we)])), (hN, .inl (k 2, 6, .inr (.inl f_6))), (hf, .inl (k 1, 36, .inl f)), (hg, .inl (k 1, 32, .inl g))]) hx hb hml hown hts hKK hP hD hS hA (x_next l D k hr1 tx kw tp ln pl en ki va ke fk fp nm bf kwf ⟨⟨by omega, by omega⟩, ⟨by omega, by omega⟩, by omega, by omega⟩ hbf hkw) ci_X4_next qm_X6_54 ⟨Nat.le_of_ble_eq_true rfl, Nat.le_of_ble_eq_true rfl⟩ ⟨Nat.le_of_ble_eq_true rfl, Nat.le_of_ble_eq_true rfl⟩ [1, 2, 3] [0, 4, 5, 6, 7] rfl rfl rfl rfl rfl (dj rfl) 0 rfl rfl rfl hl.1 rfl (Nat.le_of_ble_eq_true rfl) dX6_readNewName_66 (fun u_7 H locs hφ hP hD hS => ?_)
      obtain ⟨p_8, p_9⟩ : (RDX (tX bf ln) en u_7.1.2.1 u_7.1.2.2.1 u_7.1.2.2.2.1 u_7.1.2.2.2.2.1 u_7.1.2.2.2.2.2 u_7.2.1.2) ∧ ((0 ≤ tp ∧ tp ≤ 900) ∧ (0 ≤ ln ∧ ln ≤ 900) ∧ (0 ≤ u_7.1.2.1 ∧ u_7.1.2.1 ≤ u_7.1.2.2.1) ∧ (u_7.1.2.2.1 ≤ ln) ∧ (0 ≤ u_7.1.2.2.2.1 ∧ u_7.1.2.2.2.1 ≤ 4) ∧ (-2147483648 ≤ u_7.1.2.2.2.2.1 ∧ u_7.1.2.2.2.2.1 < 2147483648) ∧ (-1 ≤ u_7.1.2.2.2.2.2 ∧ u_7.1.2.2.2.2.2 ≤ 24)) := hφ
      have rx_10 := RDX.nx hrx p_8
      obtain ⟨⟨ar_11, br_11⟩, cr_11, dr_11, er_11, fr_11, gr_11, hr_11⟩ := id rx_10
      obtain ⟨t1u_12, t2u_12, t3u_12, t4u_12, t5u_12, t6u_12, t7u_12⟩ := id p_9
      refine W.eq (g2 := F0 m 69 ls []) rfl ?_
      refine lv_iconst (v := iZ 1) hx hb dX6_readNewName_69 rfl ?_
      have hcr := xNm_rg (gr_1 (by omega)).2 (by omega)
      exact EWz hx hb hr hlocks hS ((1, u_7.1.2.1, u_7.1.2.2.1, u_7.1.2.2.2.1, u_7.1.2.2.2.2.1, u_7.1.2.2.2.2.2, fk, fp), (0, u_7.2.1.2), (), f_6) rfl rfl ⟨(show (0 ≤ tp ∧ tp ≤ 900) ∧ (0 ≤ ln ∧ ln ≤ 900) ∧ (0 ≤ u_7.1.2.1 ∧ u_7.1.2.1 ≤ u_7.1.2.2.1) ∧ (u_7.1.2.2.1 ≤ ln) ∧ (0 ≤ u_7.1.2.2.2.1 ∧ u_7.1.2.2.2.1 ≤ 4) ∧ (-2147483648 ≤ u_7.1.2.2.2.2.1 ∧ u_7.1.2.2.2.2.1 < 2147483648) ∧ (-1 ≤ u_7.1.2.2.2.2.2 ∧ u_7.1.2.2.2.2.2 ≤ 24) from (by first | with_reducible assumption | exact ⟨⟨by omega, by omega⟩, ⟨by omega, by omega⟩, ⟨by omega, by omega⟩, by omega, ⟨by omega, by omega⟩, ⟨by omega, by omega⟩, by omega, by omega⟩)), (show ((1 : Int) = 1 ∧ ∃ q9 : Int, xNn (tX bf ln) N n cu = .inr q9 ∧ cu < q9 ∧ RDX (tX bf ln) q9 u_7.1.2.1 u_7.1.2.2.1 u_7.1.2.2.2.1 u_7.1.2.2.2.2.1 u_7.1.2.2.2.2.2 u_7.2.1.2 ∧ xNs f_6 (xUp N n (xNm (tX bf ln) cu)) (n + 1) ∧ fk = fk ∧ fp = fp) ∨ ((1 : Int) = 0 ∧ xNn (tX bf ln) N n cu = .inl (fk, fp)) from (Or.inl ⟨rfl, xEn (tX bf ln) cu, by unfold xNn; rw [if_pos hz_2, if_pos (show xFn N n (xNm (tX bf ln) cu) = -1 from (by omega))], by have := hz_2.1; omega, rx_10, xNs.up hns ⟨by omega, by omega⟩ hf_6 (gr_1 (by omega)).1 (by have := hz_2.2.2; omega), rfl, rfl⟩))⟩ (hP.sub [0, 5, 6, 7, 1, 2, 3, 4] rfl) (hD.sub [0, 5, 6, 7, 1, 2, 3, 4] rfl rfl) dX6_readNewName_70
    ·
      have c_5 := mt (zeq (x := iZ z_4) (y := iZ (-1)) rfl rfl ⟨by omega, by omega⟩ wn_m1).mpr c_5
      refine lv_aload_n hx hb dX6_readNewName_37 rfl (lv_at hl 0 rfl) ?_
      refine va_get (D := D) (ci := 6) (v := .ref hr1) (C := RX6) (T := TX6) (N := 3) hx hb hts iX6 hown hK hP 0 rfl rfl 0 (bl rfl) (hts _ qf_X6_9) (fun _ h => h) rfl dX6_readNewName_38 ?_
      refine lv_iconst (v := iZ 3) hx hb dX6_readNewName_41 rfl ?_
      refine CWV (As := [.int (iZ 3)]) (rest := []) (wc := _) (wr := [(hq, .inr (6, [.ref hr1, .ref hs, .int (iZ lt)])), (hs, .inr (5, [.ref hN, .ref hf, .ref hg, .int (iZ n), .int (iZ ni), .int (iZ lw), .int (iZ we)])), (hN, .inl (k 2, 6, .inr (.inl nf))), (hf, .inl (k 1, 36, .inl f)), (hg, .inl (k 1, 32, .inl g))]) hx hb hml hown hts hKK hP hD hS hA (x_fail l D k hr1 tx kw tp ln pl en ki va ke fk fp nm bf kwf cu 3 (by first | with_reducible assumption | exact ⟨⟨by omega, by omega⟩, ⟨by omega, by omega⟩, ⟨by omega, by omega⟩, by omega, ⟨by omega, by omega⟩, ⟨by omega, by omega⟩, by omega, by omega⟩) hrx) ci_X4_fail qm_X6_47 ⟨Nat.le_of_ble_eq_true rfl, Nat.le_of_ble_eq_true rfl⟩ ⟨Nat.le_of_ble_eq_true rfl, Nat.le_of_ble_eq_true rfl⟩ [1, 2, 3] [0, 4, 5, 6, 7] rfl rfl rfl rfl rfl (dj rfl) 0 rfl rfl rfl hl.1 rfl (Nat.le_of_ble_eq_true rfl) dX6_readNewName_42 (fun u_13 H locs hφ hP hD hS => ?_)
      have p_14 : u_13.1.2.1 = xFl (tX bf ln) cu 3 ∧ u_13.1.2.2 = xPl (tX bf ln) cu := hφ
      refine W.eq (g2 := F0 m 45 ls [.int (iZ 0)]) rfl ?_
      exact EWz hx hb hr hlocks hS ((0, pl, en, ki, va, ke, u_13.1.2.1, u_13.1.2.2), (0, nm), (), nf) rfl rfl ⟨(show (0 ≤ tp ∧ tp ≤ 900) ∧ (0 ≤ ln ∧ ln ≤ 900) ∧ (0 ≤ pl ∧ pl ≤ en) ∧ (en ≤ ln) ∧ (0 ≤ ki ∧ ki ≤ 4) ∧ (-2147483648 ≤ va ∧ va < 2147483648) ∧ (-1 ≤ ke ∧ ke ≤ 24) from (by first | with_reducible assumption | exact ⟨⟨by omega, by omega⟩, ⟨by omega, by omega⟩, ⟨by omega, by omega⟩, by omega, ⟨by omega, by omega⟩, ⟨by omega, by omega⟩, by omega, by omega⟩)), (show ((0 : Int) = 1 ∧ ∃ q9 : Int, xNn (tX bf ln) N n cu = .inr q9 ∧ cu < q9 ∧ RDX (tX bf ln) q9 pl en ki va ke nm ∧ xNs nf (xUp N n (xNm (tX bf ln) cu)) (n + 1) ∧ u_13.1.2.1 = fk ∧ u_13.1.2.2 = fp) ∨ ((0 : Int) = 0 ∧ xNn (tX bf ln) N n cu = .inl (u_13.1.2.1, u_13.1.2.2)) from (Or.inr ⟨rfl, by unfold xNn xEr; rw [if_pos hz_2, if_neg (show ¬ xFn N n (xNm (tX bf ln) cu) = -1 from (by omega)), p_14.1, p_14.2]⟩))⟩ (hP.sub [0, 5, 6, 7, 1, 2, 3, 4] rfl) (hD.sub [0, 5, 6, 7, 1, 2, 3, 4] rfl rfl) dX6_readNewName_45
  ·
    subst qz_2
    refine lv_if_ne (tgt := 19) hx hb dX6_readNewName_7 rfl (fun c => absurd (by decide) c) (fun _ => ?_)
    refine lv_aload_n hx hb dX6_readNewName_10 rfl (lv_at hl 0 rfl) ?_
    refine va_get (D := D) (ci := 6) (v := .ref hr1) (C := RX6) (T := TX6) (N := 3) hx hb hts iX6 hown hK hP 0 rfl rfl 0 (bl rfl) (hts _ qf_X6_9) (fun _ h => h) rfl dX6_readNewName_11 ?_
    refine lv_iconst (v := iZ 2) hx hb dX6_readNewName_14 rfl ?_
    refine CWV (As := [.int (iZ 2)]) (rest := []) (wc := _) (wr := [(hq, .inr (6, [.ref hr1, .ref hs, .int (iZ lt)])), (hs, .inr (5, [.ref hN, .ref hf, .ref hg, .int (iZ n), .int (iZ ni), .int (iZ lw), .int (iZ we)])), (hN, .inl (k 2, 6, .inr (.inl nf))), (hf, .inl (k 1, 36, .inl f)), (hg, .inl (k 1, 32, .inl g))]) hx hb hml hown hts hKK hP hD hS hA (x_fail l D k hr1 tx kw tp ln pl en ki va ke fk fp nm bf kwf cu 2 (by first | with_reducible assumption | exact ⟨⟨by omega, by omega⟩, ⟨by omega, by omega⟩, ⟨by omega, by omega⟩, by omega, ⟨by omega, by omega⟩, ⟨by omega, by omega⟩, by omega, by omega⟩) hrx) ci_X4_fail qm_X6_47 ⟨Nat.le_of_ble_eq_true rfl, Nat.le_of_ble_eq_true rfl⟩ ⟨Nat.le_of_ble_eq_true rfl, Nat.le_of_ble_eq_true rfl⟩ [1, 2, 3] [0, 4, 5, 6, 7] rfl rfl rfl rfl rfl (dj rfl) 0 rfl rfl rfl hl.1 rfl (Nat.le_of_ble_eq_true rfl) dX6_readNewName_15 (fun u_16 H locs hφ hP hD hS => ?_)
    have p_17 : u_16.1.2.1 = xFl (tX bf ln) cu 2 ∧ u_16.1.2.2 = xPl (tX bf ln) cu := hφ
    refine W.eq (g2 := F0 m 18 ls [.int (iZ 0)]) rfl ?_
    exact EWz hx hb hr hlocks hS ((0, pl, en, ki, va, ke, u_16.1.2.1, u_16.1.2.2), (0, nm), (), nf) rfl rfl ⟨(show (0 ≤ tp ∧ tp ≤ 900) ∧ (0 ≤ ln ∧ ln ≤ 900) ∧ (0 ≤ pl ∧ pl ≤ en) ∧ (en ≤ ln) ∧ (0 ≤ ki ∧ ki ≤ 4) ∧ (-2147483648 ≤ va ∧ va < 2147483648) ∧ (-1 ≤ ke ∧ ke ≤ 24) from (by first | with_reducible assumption | exact ⟨⟨by omega, by omega⟩, ⟨by omega, by omega⟩, ⟨by omega, by omega⟩, by omega, ⟨by omega, by omega⟩, ⟨by omega, by omega⟩, by omega, by omega⟩)), (show ((0 : Int) = 1 ∧ ∃ q9 : Int, xNn (tX bf ln) N n cu = .inr q9 ∧ cu < q9 ∧ RDX (tX bf ln) q9 pl en ki va ke nm ∧ xNs nf (xUp N n (xNm (tX bf ln) cu)) (n + 1) ∧ u_16.1.2.1 = fk ∧ u_16.1.2.2 = fp) ∨ ((0 : Int) = 0 ∧ xNn (tX bf ln) N n cu = .inl (u_16.1.2.1, u_16.1.2.2)) from (Or.inr ⟨rfl, by unfold xNn xEr; rw [if_neg hz_2, p_17.1, p_17.2]⟩))⟩ (hP.sub [0, 5, 6, 7, 1, 2, 3, 4] rfl) (hD.sub [0, 5, 6, 7, 1, 2, 3, 4] rfl rfl) dX6_readNewName_18
set_option maxHeartbeats 4000000 in
set_option maxRecDepth 100000 in
theorem x_readFact (l : Launch) (D : va_G) (k : Nat → ClassId) (hq : Nat) (hr1 : Nat) (tx : Nat) (kw : Nat) (lt : Int) (tp : Int) (ln : Int) (pl : Int) (en : Int) (ki : Int) (va : Int) (ke : Int) (fk : Int) (fp : Int) (nm : Int64) (bf : Nat → Int32) (kwf : Nat → Int64) (hs : Nat) (hN : Nat) (hf : Nat) (hg : Nat) (n : Int) (ni : Int) (lw : Int) (we : Int) (nf : Nat → Int64) (f : Nat → Int32) (g : Nat → Int32) (cu : Int) (b6 : Int) (w6 : Int) (l6 : Int) (m6 : Int) (F : Int → Int) (hI1 : (0 ≤ tp ∧ tp ≤ 900) ∧ (0 ≤ ln ∧ ln ≤ 900) ∧ (0 ≤ pl ∧ pl ≤ en) ∧ (en ≤ ln) ∧ (0 ≤ ki ∧ ki ≤ 4) ∧ (-2147483648 ≤ va ∧ va < 2147483648) ∧ (-1 ≤ ke ∧ ke ≤ 24)) (hbf : rgI bf (-128) 127 900) (hkw : ∀ j : Nat, j < 25 → kwf j = lZ (kwC j)) (hrx : RDX (tX bf ln) cu pl en ki va ke nm) (hn : 0 ≤ n ∧ n < 6) (hb6 : 0 ≤ b6 ∧ b6 ≤ 100) (hw6 : 0 ≤ w6 ∧ w6 ≤ 5) (hl6 : 0 ≤ l6 ∧ l6 ≤ 1000) (hm6 : 0 ≤ m6 ∧ m6 ≤ 1000) : WD (σ := ((Int × Int × Int × Int × Int × Int × Int × Int) × (Int64 × Int64) × ((Nat → Int32)) × (Unit))) l yX6_readFact cX6_readFact 6 (some .boolean) 3 0 0 D k [.ref hq, .int (iZ b6), .int (iZ w6), .int (iZ l6), .int (iZ m6)] [(hq, .inr (6, [.ref hr1, .ref hs, .int (iZ lt)])), (hr1, .inr (4, [.ref tx, .ref kw, .int (iZ tp), .int (iZ ln), .int (iZ pl), .int (iZ en), .int (iZ ki), .int (iZ va), .int (iZ ke), .long nm, .int (iZ fk), .int (iZ fp)])), (tx, .inl (k 0, 900, .inl bf)), (kw, .inl (k 2, 25, .inr (.inl kwf))), (hs, .inr (5, [.ref hN, .ref hf, .ref hg, .int (iZ n), .int (iZ ni), .int (iZ lw), .int (iZ we)])), (hN, .inl (k 2, 6, .inr (.inl nf))), (hf, .inl (k 1, 36, .inl f)), (hg, .inl (k 1, 32, .inl g))] (fun u => some (.int (iZ u.1.1))) (fun u => ((0 ≤ tp ∧ tp ≤ 900) ∧ (0 ≤ ln ∧ ln ≤ 900) ∧ (0 ≤ u.1.2.1 ∧ u.1.2.1 ≤ u.1.2.2.1) ∧ (u.1.2.2.1 ≤ ln) ∧ (0 ≤ u.1.2.2.2.1 ∧ u.1.2.2.2.1 ≤ 4) ∧ (-2147483648 ≤ u.1.2.2.2.2.1 ∧ u.1.2.2.2.2.1 < 2147483648) ∧ (-1 ≤ u.1.2.2.2.2.2.1 ∧ u.1.2.2.2.2.2.1 ≤ 24)) ∧ (((u.1.1 : Int) = 1 ∧ ∃ (q9 v9 : Int), xFF (tX bf ln) b6 w6 l6 m6 n cu F = .inr (q9, xUp F ((n * 6) + w6) v9) ∧ cu < q9 ∧ RDX (tX bf ln) q9 u.1.2.1 u.1.2.2.1 u.1.2.2.2.1 u.1.2.2.2.2.1 u.1.2.2.2.2.2.1 u.2.1.2 ∧ (l6 ≤ v9 ∧ v9 ≤ m6) ∧ u.2.2.1 = upd f (iZ ((n * 6) + w6)).toNatClampNeg (iZ v9) ∧ u.1.2.2.2.2.2.2.1 = fk ∧ u.1.2.2.2.2.2.2.2 = fp) ∨ ((u.1.1 : Int) = 0 ∧ xFF (tX bf ln) b6 w6 l6 m6 n cu F = .inl (u.1.2.2.2.2.2.2.1, u.1.2.2.2.2.2.2.2)))) (fun u => [(hq, .inr (6, [.ref hr1, .ref hs, .int (iZ lt)])), (hr1, .inr (4, [.ref tx, .ref kw, .int (iZ tp), .int (iZ ln), .int (iZ u.1.2.1), .int (iZ u.1.2.2.1), .int (iZ u.1.2.2.2.1), .int (iZ u.1.2.2.2.2.1), .int (iZ u.1.2.2.2.2.2.1), .long u.2.1.2, .int (iZ u.1.2.2.2.2.2.2.1), .int (iZ u.1.2.2.2.2.2.2.2)])), (tx, .inl (k 0, 900, .inl bf)), (kw, .inl (k 2, 25, .inr (.inl kwf))), (hs, .inr (5, [.ref hN, .ref hf, .ref hg, .int (iZ n), .int (iZ ni), .int (iZ lw), .int (iZ we)])), (hN, .inl (k 2, 6, .inr (.inl nf))), (hf, .inl (k 1, 36, .inl u.2.2.1)), (hg, .inl (k 1, 32, .inl g))]) := by
  refine MW (by decide) (Nat.le_of_ble_eq_true rfl) (fun p e s m below meth c ls A hx hb hml hr hlocks hin hts hown hKK hP hD hS hA hl => ?_)
  have hK := hKK.1
  have hl : lv_has ls 6 [(0, .ref hq), (1, .int (iZ b6)), (2, .int (iZ w6)), (3, .int (iZ l6)), (4, .int (iZ m6))] := hl
  obtain ⟨⟨ar_1, br_1⟩, cr_1, dr_1, er_1, fr_1, gr_1, hr_1⟩ := id hrx
  refine lv_aload_n hx hb dX6_readFact_0 rfl (lv_at hl 0 rfl) ?_
  refine va_get (D := D) (ci := 6) (v := .ref hr1) (C := RX6) (T := TX6) (N := 3) hx hb hts iX6 hown hK hP 0 rfl rfl 0 (bl rfl) (hts _ qf_X6_9) (fun _ h => h) rfl dX6_readFact_1 ?_
  refine lv_iload_n hx hb dX6_readFact_4 rfl (lv_at hl 1 rfl) ?_
  refine CWV (As := [.int (iZ b6)]) (rest := []) (wc := _) (wr := [(hq, .inr (6, [.ref hr1, .ref hs, .int (iZ lt)])), (hs, .inr (5, [.ref hN, .ref hf, .ref hg, .int (iZ n), .int (iZ ni), .int (iZ lw), .int (iZ we)])), (hN, .inl (k 2, 6, .inr (.inl nf))), (hf, .inl (k 1, 36, .inl f)), (hg, .inl (k 1, 32, .inl g))]) hx hb hml hown hts hKK hP hD hS hA (x_takeWord l D k hr1 tx kw tp ln pl en ki va ke fk fp nm bf kwf cu b6 (by first | with_reducible assumption | exact ⟨⟨by omega, by omega⟩, ⟨by omega, by omega⟩, ⟨by omega, by omega⟩, by omega, ⟨by omega, by omega⟩, ⟨by omega, by omega⟩, by omega, by omega⟩) hbf hkw hrx ⟨by omega, by omega⟩) ci_X4_takeWord qm_X6_85 ⟨Nat.le_of_ble_eq_true rfl, Nat.le_of_ble_eq_true rfl⟩ ⟨Nat.le_of_ble_eq_true rfl, Nat.le_of_ble_eq_true rfl⟩ [1, 2, 3] [0, 4, 5, 6, 7] rfl rfl rfl rfl rfl (dj rfl) 0 rfl rfl rfl hl.1 rfl (Nat.le_of_ble_eq_true rfl) dX6_readFact_5 (fun u_2 H locs hφ hP hD hS => ?_)
  obtain ⟨p_3, p_4⟩ : ((0 ≤ tp ∧ tp ≤ 900) ∧ (0 ≤ ln ∧ ln ≤ 900) ∧ (0 ≤ u_2.1.2.1 ∧ u_2.1.2.1 ≤ u_2.1.2.2.1) ∧ (u_2.1.2.2.1 ≤ ln) ∧ (0 ≤ u_2.1.2.2.2.1 ∧ u_2.1.2.2.2.1 ≤ 4) ∧ (-2147483648 ≤ u_2.1.2.2.2.2.1 ∧ u_2.1.2.2.2.2.1 < 2147483648) ∧ (-1 ≤ u_2.1.2.2.2.2.2.1 ∧ u_2.1.2.2.2.2.2.1 ≤ 24)) ∧ (((u_2.1.1 : Int) = 1 ∧ ∃ q9 : Int, xTw (tX bf ln) b6 cu = .inr q9 ∧ cu < q9 ∧ RDX (tX bf ln) q9 u_2.1.2.1 u_2.1.2.2.1 u_2.1.2.2.2.1 u_2.1.2.2.2.2.1 u_2.1.2.2.2.2.2.1 u_2.2.1.2 ∧ u_2.1.2.2.2.2.2.2.1 = fk ∧ u_2.1.2.2.2.2.2.2.2 = fp) ∨ ((u_2.1.1 : Int) = 0 ∧ xTw (tX bf ln) b6 cu = .inl (u_2.1.2.2.2.2.2.2.1, u_2.1.2.2.2.2.2.2.2))) := hφ
  refine W.eq (g2 := F0 m 8 ls [.int (iZ u_2.1.1)]) rfl ?_
  rcases p_4 with ⟨qt_5, cut_5, st_5, lt_5, xt_5, ut_5, vt_5⟩ | ⟨qt_5, st_5⟩
  ·
    rw [qt_5]
    obtain ⟨⟨ar_6, br_6⟩, cr_6, dr_6, er_6, fr_6, gr_6, hr_6⟩ := id xt_5
    refine lv_if_ne (tgt := 13) hx hb dX6_readFact_8 rfl (fun _ => ?_) (fun c => absurd c (by decide))
    refine lv_aload_n hx hb dX6_readFact_13 rfl (lv_at hl 0 rfl) ?_
    refine va_get (D := D) (ci := 6) (v := .ref hr1) (C := RX6) (T := TX6) (N := 3) hx hb hts iX6 hown hK hP 0 rfl rfl 0 (bl rfl) (hts _ qf_X6_9) (fun _ h => h) rfl dX6_readFact_14 ?_
    refine lv_iload_n hx hb dX6_readFact_17 rfl (lv_at hl 3 rfl) ?_
    refine lv_iload hx hb dX6_readFact_18 (lv_at hl 4 rfl) ?_
    refine CWV (As := [.int (iZ l6), .int (iZ m6)]) (rest := []) (wc := _) (wr := [(hq, .inr (6, [.ref hr1, .ref hs, .int (iZ lt)])), (hs, .inr (5, [.ref hN, .ref hf, .ref hg, .int (iZ n), .int (iZ ni), .int (iZ lw), .int (iZ we)])), (hN, .inl (k 2, 6, .inr (.inl nf))), (hf, .inl (k 1, 36, .inl f)), (hg, .inl (k 1, 32, .inl g))]) hx hb hml hown hts hKK hP hD hS hA (x_takeNumber l D k hr1 tx kw tp ln u_2.1.2.1 u_2.1.2.2.1 u_2.1.2.2.2.1 u_2.1.2.2.2.2.1 u_2.1.2.2.2.2.2.1 u_2.1.2.2.2.2.2.2.1 u_2.1.2.2.2.2.2.2.2 u_2.2.1.2 bf kwf cut_5 l6 m6 (by first | with_reducible assumption | exact ⟨⟨by omega, by omega⟩, ⟨by omega, by omega⟩, ⟨by omega, by omega⟩, by omega, ⟨by omega, by omega⟩, ⟨by omega, by omega⟩, by omega, by omega⟩) hbf hkw xt_5 ⟨by omega, by omega⟩ ⟨by omega, by omega⟩) ci_X4_takeNumber qm_X6_88 ⟨Nat.le_of_ble_eq_true rfl, Nat.le_of_ble_eq_true rfl⟩ ⟨Nat.le_of_ble_eq_true rfl, Nat.le_of_ble_eq_true rfl⟩ [5, 6, 7] [0, 1, 2, 3, 4] rfl rfl rfl rfl rfl (dj rfl) 0 rfl rfl rfl hl.1 rfl (Nat.le_of_ble_eq_true rfl) dX6_readFact_20 (fun u_8 H locs hφ hP hD hS => ?_)
    obtain ⟨p_9, p_10⟩ : ((0 ≤ tp ∧ tp ≤ 900) ∧ (0 ≤ ln ∧ ln ≤ 900) ∧ (0 ≤ u_8.1.2.1 ∧ u_8.1.2.1 ≤ u_8.1.2.2.1) ∧ (u_8.1.2.2.1 ≤ ln) ∧ (0 ≤ u_8.1.2.2.2.1 ∧ u_8.1.2.2.2.1 ≤ 4) ∧ (-2147483648 ≤ u_8.1.2.2.2.2.1 ∧ u_8.1.2.2.2.2.1 < 2147483648) ∧ (-1 ≤ u_8.1.2.2.2.2.2.1 ∧ u_8.1.2.2.2.2.2.1 ≤ 24)) ∧ ((¬ (u_8.1.1 : Int) = -1 ∧ ∃ q9 : Int, xTn (tX bf ln) l6 m6 cut_5 = .inr (q9, u_8.1.1) ∧ cut_5 < q9 ∧ RDX (tX bf ln) q9 u_8.1.2.1 u_8.1.2.2.1 u_8.1.2.2.2.1 u_8.1.2.2.2.2.1 u_8.1.2.2.2.2.2.1 u_8.2.1.2 ∧ (l6 ≤ u_8.1.1 ∧ u_8.1.1 ≤ m6) ∧ u_8.1.2.2.2.2.2.2.1 = u_2.1.2.2.2.2.2.2.1 ∧ u_8.1.2.2.2.2.2.2.2 = u_2.1.2.2.2.2.2.2.2) ∨ ((u_8.1.1 : Int) = -1 ∧ xTn (tX bf ln) l6 m6 cut_5 = .inl (u_8.1.2.2.2.2.2.2.1, u_8.1.2.2.2.2.2.2.2))) := hφ
    refine W.eq (g2 := F0 m 23 ls [.int (iZ u_8.1.1)]) rfl ?_
    rcases p_10 with ⟨qt_11, cut_11, st_11, lt_11, xt_11, rt_11, ut_11, vt_11⟩ | ⟨qt_11, st_11⟩
    ·
      obtain ⟨⟨ar_12, br_12⟩, cr_12, dr_12, er_12, fr_12, gr_12, hr_12⟩ := id xt_11
      refine lv_istore (lv' := [(5, .int (iZ u_8.1.1)), (0, .ref hq), (1, .int (iZ b6)), (2, .int (iZ w6)), (3, .int (iZ l6)), (4, .int (iZ m6))]) hx hb dX6_readFact_23 hl (bl rfl) rfl (fun ls hl => ?_)
      refine lv_aload_n hx hb dX6_readFact_25 rfl (lv_at hl 1 rfl) ?_
      refine va_get (D := D) (ci := 6) (v := .ref hs) (C := RX6) (T := TX6) (N := 3) hx hb hts iX6 hown hK hP 0 rfl rfl 1 (bl rfl) (hts _ qf_X6_15) (fun _ h => h) rfl dX6_readFact_26 ?_
      refine va_get (D := D) (ci := 5) (v := .ref hf) (C := RX5) (T := TX5) (N := 7) hx hb hts iX5 hown hK hP 1 rfl rfl 1 (bl rfl) (hts _ qf_X6_92) (fun _ h => h) rfl dX6_readFact_29 ?_
      refine lv_aload_n hx hb dX6_readFact_32 rfl (lv_at hl 1 rfl) ?_
      refine va_get (D := D) (ci := 6) (v := .ref hs) (C := RX6) (T := TX6) (N := 3) hx hb hts iX6 hown hK hP 0 rfl rfl 1 (bl rfl) (hts _ qf_X6_15) (fun _ h => h) rfl dX6_readFact_33 ?_
      refine va_get (D := D) (ci := 5) (v := .int (iZ n)) (C := RX5) (T := TX5) (N := 7) hx hb hts iX5 hown hK hP 1 rfl rfl 3 (bl rfl) (hts _ qf_X6_51) (fun _ h => h) rfl dX6_readFact_36 ?_
      refine lv_bipush (v := iZ 6) hx hb dX6_readFact_39 bip_6 ?_
      refine lv_imul hx hb dX6_readFact_41 ?_
      refine lv_topi (fun x_13 ex_13 => ?_)
      obtain rfl : x_13 = iZ (n * 6) := ex_13.trans (iZ_mul n 6)
      refine lv_iload_n hx hb dX6_readFact_42 rfl (lv_at hl 3 rfl) ?_
      refine lv_iadd hx hb dX6_readFact_43 ?_
      refine lv_topi (fun x_14 ex_14 => ?_)
      obtain rfl : x_14 = iZ ((n * 6) + w6) := ex_14.trans (iZ_add (n * 6) w6)
      refine lv_iload hx hb dX6_readFact_44 (lv_at hl 0 rfl) ?_
      refine va_iast hx hb hK hP hD hS 3 1 rfl rfl (zin (e := ((n * 6) + w6)) (n := 36) ⟨by omega, by omega⟩ (bl rfl)) dX6_readFact_46 (fun H locs hP hD hS => ?_)
      obtain ⟨f_15, hf_15⟩ : ∃ gg9, gg9 = upd f (iZ ((n * 6) + w6)).toNatClampNeg (iZ u_8.1.1) := ⟨_, rfl⟩
      rw [← hf_15] at hP hD
      refine lv_iload hx hb dX6_readFact_47 (lv_at hl 0 rfl) ?_
      refine lv_iconst (v := iZ (-1)) hx hb dX6_readFact_49 rfl ?_
      refine lv_icmp_eq (tgt := 57) hx hb dX6_readFact_50 rfl (fun c_16 => ?_) (fun c_16 => ?_)
      ·
        have c_16 := (zeq (x := iZ u_8.1.1) (y := iZ (-1)) rfl rfl ⟨by omega, by omega⟩ wn_m1).mp c_16
        exact absurd c_16 (by omega)
      ·
        have c_16 := mt (zeq (x := iZ u_8.1.1) (y := iZ (-1)) rfl rfl ⟨by omega, by omega⟩ wn_m1).mpr c_16
        refine lv_iconst (v := iZ 1) hx hb dX6_readFact_53 rfl ?_
        refine lv_goto (tgt := 58) hx hb dX6_readFact_54 rfl ?_
        exact EWz hx hb hr hlocks hS ((1, u_8.1.2.1, u_8.1.2.2.1, u_8.1.2.2.2.1, u_8.1.2.2.2.2.1, u_8.1.2.2.2.2.2.1, u_8.1.2.2.2.2.2.2.1, u_8.1.2.2.2.2.2.2.2), (0, u_8.2.1.2), f_15, ()) rfl rfl ⟨(show (0 ≤ tp ∧ tp ≤ 900) ∧ (0 ≤ ln ∧ ln ≤ 900) ∧ (0 ≤ u_8.1.2.1 ∧ u_8.1.2.1 ≤ u_8.1.2.2.1) ∧ (u_8.1.2.2.1 ≤ ln) ∧ (0 ≤ u_8.1.2.2.2.1 ∧ u_8.1.2.2.2.1 ≤ 4) ∧ (-2147483648 ≤ u_8.1.2.2.2.2.1 ∧ u_8.1.2.2.2.2.1 < 2147483648) ∧ (-1 ≤ u_8.1.2.2.2.2.2.1 ∧ u_8.1.2.2.2.2.2.1 ≤ 24) from (by first | with_reducible assumption | exact ⟨⟨by omega, by omega⟩, ⟨by omega, by omega⟩, ⟨by omega, by omega⟩, by omega, ⟨by omega, by omega⟩, ⟨by omega, by omega⟩, by omega, by omega⟩)), (show ((1 : Int) = 1 ∧ ∃ (q9 v9 : Int), xFF (tX bf ln) b6 w6 l6 m6 n cu F = .inr (q9, xUp F ((n * 6) + w6) v9) ∧ cu < q9 ∧ RDX (tX bf ln) q9 u_8.1.2.1 u_8.1.2.2.1 u_8.1.2.2.2.1 u_8.1.2.2.2.2.1 u_8.1.2.2.2.2.2.1 u_8.2.1.2 ∧ (l6 ≤ v9 ∧ v9 ≤ m6) ∧ f_15 = upd f (iZ ((n * 6) + w6)).toNatClampNeg (iZ v9) ∧ u_8.1.2.2.2.2.2.2.1 = fk ∧ u_8.1.2.2.2.2.2.2.2 = fp) ∨ ((1 : Int) = 0 ∧ xFF (tX bf ln) b6 w6 l6 m6 n cu F = .inl (u_8.1.2.2.2.2.2.2.1, u_8.1.2.2.2.2.2.2.2)) from (Or.inl ⟨rfl, cut_11, u_8.1.1, (xBn_r st_5).trans ((xBn_r st_11).trans (rfl)), by omega, xt_11, ⟨by omega, by omega⟩, hf_15, by omega, by omega⟩))⟩ (hP.sub [0, 5, 6, 7, 1, 2, 3, 4] rfl) (hD.sub [0, 5, 6, 7, 1, 2, 3, 4] rfl rfl) dX6_readFact_58
    ·
      rw [qt_11]
      refine lv_istore (lv' := [(5, .int (iZ (-1))), (0, .ref hq), (1, .int (iZ b6)), (2, .int (iZ w6)), (3, .int (iZ l6)), (4, .int (iZ m6))]) hx hb dX6_readFact_23 hl (bl rfl) rfl (fun ls hl => ?_)
      refine lv_aload_n hx hb dX6_readFact_25 rfl (lv_at hl 1 rfl) ?_
      refine va_get (D := D) (ci := 6) (v := .ref hs) (C := RX6) (T := TX6) (N := 3) hx hb hts iX6 hown hK hP 0 rfl rfl 1 (bl rfl) (hts _ qf_X6_15) (fun _ h => h) rfl dX6_readFact_26 ?_
      refine va_get (D := D) (ci := 5) (v := .ref hf) (C := RX5) (T := TX5) (N := 7) hx hb hts iX5 hown hK hP 1 rfl rfl 1 (bl rfl) (hts _ qf_X6_92) (fun _ h => h) rfl dX6_readFact_29 ?_
      refine lv_aload_n hx hb dX6_readFact_32 rfl (lv_at hl 1 rfl) ?_
      refine va_get (D := D) (ci := 6) (v := .ref hs) (C := RX6) (T := TX6) (N := 3) hx hb hts iX6 hown hK hP 0 rfl rfl 1 (bl rfl) (hts _ qf_X6_15) (fun _ h => h) rfl dX6_readFact_33 ?_
      refine va_get (D := D) (ci := 5) (v := .int (iZ n)) (C := RX5) (T := TX5) (N := 7) hx hb hts iX5 hown hK hP 1 rfl rfl 3 (bl rfl) (hts _ qf_X6_51) (fun _ h => h) rfl dX6_readFact_36 ?_
      refine lv_bipush (v := iZ 6) hx hb dX6_readFact_39 bip_6 ?_
      refine lv_imul hx hb dX6_readFact_41 ?_
      refine lv_topi (fun x_17 ex_17 => ?_)
      obtain rfl : x_17 = iZ (n * 6) := ex_17.trans (iZ_mul n 6)
      refine lv_iload_n hx hb dX6_readFact_42 rfl (lv_at hl 3 rfl) ?_
      refine lv_iadd hx hb dX6_readFact_43 ?_
      refine lv_topi (fun x_18 ex_18 => ?_)
      obtain rfl : x_18 = iZ ((n * 6) + w6) := ex_18.trans (iZ_add (n * 6) w6)
      refine lv_iload hx hb dX6_readFact_44 (lv_at hl 0 rfl) ?_
      refine va_iast hx hb hK hP hD hS 3 1 rfl rfl (zin (e := ((n * 6) + w6)) (n := 36) ⟨by omega, by omega⟩ (bl rfl)) dX6_readFact_46 (fun H locs hP hD hS => ?_)
      obtain ⟨f_19, hf_19⟩ : ∃ gg9, gg9 = upd f (iZ ((n * 6) + w6)).toNatClampNeg (iZ (-1)) := ⟨_, rfl⟩
      rw [← hf_19] at hP hD
      refine lv_iload hx hb dX6_readFact_47 (lv_at hl 0 rfl) ?_
      refine lv_iconst (v := iZ (-1)) hx hb dX6_readFact_49 rfl ?_
      refine lv_icmp_eq (tgt := 57) hx hb dX6_readFact_50 rfl (fun _ => ?_) (fun c => absurd (by decide) c)
      refine lv_iconst (v := iZ 0) hx hb dX6_readFact_57 rfl ?_
      exact EWz hx hb hr hlocks hS ((0, u_8.1.2.1, u_8.1.2.2.1, u_8.1.2.2.2.1, u_8.1.2.2.2.2.1, u_8.1.2.2.2.2.2.1, u_8.1.2.2.2.2.2.2.1, u_8.1.2.2.2.2.2.2.2), (0, u_8.2.1.2), f_19, ()) rfl rfl ⟨(show (0 ≤ tp ∧ tp ≤ 900) ∧ (0 ≤ ln ∧ ln ≤ 900) ∧ (0 ≤ u_8.1.2.1 ∧ u_8.1.2.1 ≤ u_8.1.2.2.1) ∧ (u_8.1.2.2.1 ≤ ln) ∧ (0 ≤ u_8.1.2.2.2.1 ∧ u_8.1.2.2.2.1 ≤ 4) ∧ (-2147483648 ≤ u_8.1.2.2.2.2.1 ∧ u_8.1.2.2.2.2.1 < 2147483648) ∧ (-1 ≤ u_8.1.2.2.2.2.2.1 ∧ u_8.1.2.2.2.2.2.1 ≤ 24) from (by first | with_reducible assumption | exact ⟨⟨by omega, by omega⟩, ⟨by omega, by omega⟩, ⟨by omega, by omega⟩, by omega, ⟨by omega, by omega⟩, ⟨by omega, by omega⟩, by omega, by omega⟩)), (show ((0 : Int) = 1 ∧ ∃ (q9 v9 : Int), xFF (tX bf ln) b6 w6 l6 m6 n cu F = .inr (q9, xUp F ((n * 6) + w6) v9) ∧ cu < q9 ∧ RDX (tX bf ln) q9 u_8.1.2.1 u_8.1.2.2.1 u_8.1.2.2.2.1 u_8.1.2.2.2.2.1 u_8.1.2.2.2.2.2.1 u_8.2.1.2 ∧ (l6 ≤ v9 ∧ v9 ≤ m6) ∧ f_19 = upd f (iZ ((n * 6) + w6)).toNatClampNeg (iZ v9) ∧ u_8.1.2.2.2.2.2.2.1 = fk ∧ u_8.1.2.2.2.2.2.2.2 = fp) ∨ ((0 : Int) = 0 ∧ xFF (tX bf ln) b6 w6 l6 m6 n cu F = .inl (u_8.1.2.2.2.2.2.2.1, u_8.1.2.2.2.2.2.2.2)) from (Or.inr ⟨rfl, (xBn_r st_5).trans (xBn_l st_11)⟩))⟩ (hP.sub [0, 5, 6, 7, 1, 2, 3, 4] rfl) (hD.sub [0, 5, 6, 7, 1, 2, 3, 4] rfl rfl) dX6_readFact_58
  ·
    rw [qt_5]
    refine lv_if_ne (tgt := 13) hx hb dX6_readFact_8 rfl (fun c => absurd (by decide) c) (fun _ => ?_)
    refine lv_iconst (v := iZ 0) hx hb dX6_readFact_11 rfl ?_
    exact EWz hx hb hr hlocks hS ((0, u_2.1.2.1, u_2.1.2.2.1, u_2.1.2.2.2.1, u_2.1.2.2.2.2.1, u_2.1.2.2.2.2.2.1, u_2.1.2.2.2.2.2.2.1, u_2.1.2.2.2.2.2.2.2), (0, u_2.2.1.2), f, ()) rfl rfl ⟨(show (0 ≤ tp ∧ tp ≤ 900) ∧ (0 ≤ ln ∧ ln ≤ 900) ∧ (0 ≤ u_2.1.2.1 ∧ u_2.1.2.1 ≤ u_2.1.2.2.1) ∧ (u_2.1.2.2.1 ≤ ln) ∧ (0 ≤ u_2.1.2.2.2.1 ∧ u_2.1.2.2.2.1 ≤ 4) ∧ (-2147483648 ≤ u_2.1.2.2.2.2.1 ∧ u_2.1.2.2.2.2.1 < 2147483648) ∧ (-1 ≤ u_2.1.2.2.2.2.2.1 ∧ u_2.1.2.2.2.2.2.1 ≤ 24) from (by first | with_reducible assumption | exact ⟨⟨by omega, by omega⟩, ⟨by omega, by omega⟩, ⟨by omega, by omega⟩, by omega, ⟨by omega, by omega⟩, ⟨by omega, by omega⟩, by omega, by omega⟩)), (show ((0 : Int) = 1 ∧ ∃ (q9 v9 : Int), xFF (tX bf ln) b6 w6 l6 m6 n cu F = .inr (q9, xUp F ((n * 6) + w6) v9) ∧ cu < q9 ∧ RDX (tX bf ln) q9 u_2.1.2.1 u_2.1.2.2.1 u_2.1.2.2.2.1 u_2.1.2.2.2.2.1 u_2.1.2.2.2.2.2.1 u_2.2.1.2 ∧ (l6 ≤ v9 ∧ v9 ≤ m6) ∧ f = upd f (iZ ((n * 6) + w6)).toNatClampNeg (iZ v9) ∧ u_2.1.2.2.2.2.2.2.1 = fk ∧ u_2.1.2.2.2.2.2.2.2 = fp) ∨ ((0 : Int) = 0 ∧ xFF (tX bf ln) b6 w6 l6 m6 n cu F = .inl (u_2.1.2.2.2.2.2.2.1, u_2.1.2.2.2.2.2.2.2)) from (Or.inr ⟨rfl, xBn_l st_5⟩))⟩ (hP.sub [0, 5, 6, 7, 1, 2, 3, 4] rfl) (hD.sub [0, 5, 6, 7, 1, 2, 3, 4] rfl rfl) dX6_readFact_12
end
