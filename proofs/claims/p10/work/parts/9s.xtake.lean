set_option maxHeartbeats 4000000 in
set_option maxRecDepth 100000 in
theorem x_takeRock (l : Launch) (D : va_G) (k : Nat → ClassId) (fs : List Value) (hr1 : Nat) (tx : Nat) (kw : Nat) (hs : Nat) (hN : Nat) (tp : Int) (ln : Int) (pl : Int) (en : Int) (ki : Int) (va : Int) (ke : Int) (fk : Int) (fp : Int) (nm : Int64) (bf : Nat → Int32) (kwf : Nat → Int64) (nf : Nat → Int64) (n : Int) (cu : Int) (w : Int) (N : Int → Int) (f0 : fs[0]? = some (.ref hN)) (f3 : fs[3]? = some (.int (iZ n))) (hI1 : (0 ≤ tp ∧ tp ≤ 900) ∧ (0 ≤ ln ∧ ln ≤ 900) ∧ (0 ≤ pl ∧ pl ≤ en) ∧ (en ≤ ln) ∧ (0 ≤ ki ∧ ki ≤ 4) ∧ (-2147483648 ≤ va ∧ va < 2147483648) ∧ (-1 ≤ ke ∧ ke ≤ 24)) (hbf : rgI bf (-128) 127 900) (hkw : ∀ j : Nat, j < 25 → kwf j = lZ (kwC j)) (hrx : RDX (tX bf ln) cu pl en ki va ke nm) (hn : 0 ≤ n ∧ n ≤ 6) (hw : -2147483648 ≤ w ∧ w < 2147483648) (hns : xNs nf N n) : WD (σ := ((Nat → Int) × (Nat → Int64) × (Nat → Nat → Int32) × (Nat → Nat → Int64))) l yX4_takeRock cX4_takeRock 5 (some .int) 2 0 0 D k [.ref hr1, .ref hs, .int (iZ w)] [(hr1, .inr (4, [.ref tx, .ref kw, .int (iZ tp), .int (iZ ln), .int (iZ pl), .int (iZ en), .int (iZ ki), .int (iZ va), .int (iZ ke), .long nm, .int (iZ fk), .int (iZ fp)])), (tx, .inl (k 0, 900, .inl bf)), (kw, .inl (k 2, 25, .inr (.inl kwf))), (hs, .inr (5, fs)), (hN, .inl (k 2, 6, .inr (.inl nf)))] (fun u => some (.int (iZ (u.1 0)))) (fun u => ((0 ≤ tp ∧ tp ≤ 900) ∧ (0 ≤ ln ∧ ln ≤ 900) ∧ (0 ≤ (u.1 1) ∧ (u.1 1) ≤ (u.1 2)) ∧ ((u.1 2) ≤ ln) ∧ (0 ≤ (u.1 3) ∧ (u.1 3) ≤ 4) ∧ (-2147483648 ≤ (u.1 4) ∧ (u.1 4) < 2147483648) ∧ (-1 ≤ (u.1 5) ∧ (u.1 5) ≤ 24)) ∧ ((¬ ((u.1 0) : Int) = -1 ∧ ∃ q9 : Int, xTr (tX bf ln) N n w cu = .inr (q9, (u.1 0)) ∧ cu < q9 ∧ RDX (tX bf ln) q9 (u.1 1) (u.1 2) (u.1 3) (u.1 4) (u.1 5) (u.2.1 1) ∧ (0 ≤ (u.1 0) ∧ (u.1 0) < n) ∧ (u.1 6) = fk ∧ (u.1 7) = fp) ∨ (((u.1 0) : Int) = -1 ∧ xTr (tX bf ln) N n w cu = .inl ((u.1 6), (u.1 7))))) (fun u => [(hr1, .inr (4, [.ref tx, .ref kw, .int (iZ tp), .int (iZ ln), .int (iZ (u.1 1)), .int (iZ (u.1 2)), .int (iZ (u.1 3)), .int (iZ (u.1 4)), .int (iZ (u.1 5)), .long (u.2.1 1), .int (iZ (u.1 6)), .int (iZ (u.1 7))])), (tx, .inl (k 0, 900, .inl bf)), (kw, .inl (k 2, 25, .inr (.inl kwf))), (hs, .inr (5, fs)), (hN, .inl (k 2, 6, .inr (.inl nf)))]) := by
  refine MW (by decide) (Nat.le_of_ble_eq_true rfl) (fun p e s m below meth c ls A hx hb hml hr hlocks hin hts hown hKK hP hD hS hA hl => ?_)
  have hK := hKK.1
  have hl : lv_has ls 5 [(0, .ref hr1), (1, .ref hs), (2, .int (iZ w))] := hl
  obtain ⟨⟨ar_1, br_1⟩, cr_1, dr_1, er_1, fr_1, gr_1, hr_1⟩ := id hrx
  refine lv_aload_n hx hb dX4_takeRock_0 rfl (lv_at hl 0 rfl) ?_
  refine CPV (As := []) (rest := []) hx hb hml hown hts hKK (hP.sub (ws' := [(hr1, .inr (4, [.ref tx, .ref kw, .int (iZ tp), .int (iZ ln), .int (iZ pl), .int (iZ en), .int (iZ ki), .int (iZ va), .int (iZ ke), .long nm, .int (iZ fk), .int (iZ fp)])), (tx, .inl (k 0, 900, .inl bf))]) [0, 1] rfl) (x_isName l D k hr1 tx kw tp ln pl en ki va ke fk fp nm bf cu ⟨⟨by omega, by omega⟩, ⟨by omega, by omega⟩, ⟨by omega, by omega⟩, by omega, ⟨by omega, by omega⟩, ⟨by omega, by omega⟩, by omega, by omega⟩ hrx) ci_X4_isName qm_X4_84 ⟨Nat.le_of_ble_eq_true rfl, Nat.le_of_ble_eq_true rfl⟩ ⟨Nat.le_of_ble_eq_true rfl, Nat.le_of_ble_eq_true rfl⟩ 0 rfl rfl rfl hl.1 rfl (Nat.le_of_ble_eq_true rfl) dX4_takeRock_1 (fun z_2 hz_2 => ?_)
  rcases hz_2 with ⟨qz_2, hz_2⟩ | ⟨qz_2, hz_2⟩
  ·
    subst qz_2
    refine lv_if_eq (tgt := 18) hx hb dX4_takeRock_4 (by decide) (fun c => absurd c (by decide)) (fun _ => ?_)
    refine lv_aload_n hx hb dX4_takeRock_7 rfl (lv_at hl 1 rfl) ?_
    refine lv_aload_n hx hb dX4_takeRock_8 rfl (lv_at hl 0 rfl) ?_
    refine va_get (D := D) (ci := 4) (v := .long nm) (C := RX4) (T := TX4) (N := 12) hx hb hts iX4 hown hK hP 0 rfl rfl 9 (by decide) (hts _ qf_X4_61) (fun _ h => h) rfl dX4_takeRock_9 ?_
    refine CPV (As := [.long nm]) (rest := []) hx hb hml hown hts hKK (hP.sub (ws' := [(hs, .inr (5, fs)), (hN, .inl (k 2, 6, .inr (.inl nf)))]) [3, 4] rfl) (k_named l D k hs hN fs f0 nf n f3 ⟨by omega, by omega⟩ nm) ci_X5_named qm_X4_88 ⟨Nat.le_of_ble_eq_true rfl, Nat.le_of_ble_eq_true rfl⟩ ⟨Nat.le_of_ble_eq_true rfl, Nat.le_of_ble_eq_true rfl⟩ 0 rfl rfl rfl hl.1 rfl (Nat.le_of_ble_eq_true rfl) dX4_takeRock_12 (fun z_4 hz_4 => ?_)
    have hm_z_4 := nm_rg hz_4
    have hf_z_4 := isNm_fn (N := N) hns (gr_1 (by omega)).1 (xNm_rg (gr_1 (by omega)).2 (by omega)) hz_4
    refine lv_goto (tgt := 19) hx hb dX4_takeRock_15 (by decide) ?_
    refine lv_istore_n (lv' := [(3, .int (iZ z_4)), (0, .ref hr1), (1, .ref hs), (2, .int (iZ w))]) hx hb dX4_takeRock_19 rfl hl (by decide) rfl (fun ls hl => ?_)
    refine lv_iload_n hx hb dX4_takeRock_20 rfl (lv_at hl 0 rfl) ?_
    refine lv_iconst (v := iZ (-1)) hx hb dX4_takeRock_21 (by decide) ?_
    refine lv_icmp_eq (tgt := 30) hx hb dX4_takeRock_22 (by decide) (fun c_5 => ?_) (fun c_5 => ?_)
    ·
      have c_5 := (zeq (x := iZ z_4) (y := iZ (-1)) rfl rfl ⟨by omega, by omega⟩ ⟨by omega, by omega⟩).mp c_5
      refine lv_iload_n hx hb dX4_takeRock_30 rfl (lv_at hl 0 rfl) ?_
      refine lv_iconst (v := iZ (-1)) hx hb dX4_takeRock_31 (by decide) ?_
      refine lv_icmp_ne (tgt := 39) hx hb dX4_takeRock_32 (by decide) (fun c_6 => ?_) (fun c_6 => ?_)
      ·
        have c_6 := mt (zeq (x := iZ z_4) (y := iZ (-1)) rfl rfl ⟨by omega, by omega⟩ ⟨by omega, by omega⟩).mpr c_6
        refine lv_iconst (v := iZ 5) hx hb dX4_takeRock_39 (by decide) ?_
        refine lv_istore (lv' := [(4, .int (iZ 5)), (3, .int (iZ z_4)), (0, .ref hr1), (1, .ref hs), (2, .int (iZ w))]) hx hb dX4_takeRock_40 hl (by decide) rfl (fun ls hl => ?_)
        refine lv_aload_n hx hb dX4_takeRock_42 rfl (lv_at hl 2 rfl) ?_
        refine lv_aload_n hx hb dX4_takeRock_43 rfl (lv_at hl 2 rfl) ?_
        refine CPV (As := []) (rest := [.ref hr1]) hx hb hml hown hts hKK (hP.sub (ws' := [(hr1, .inr (4, [.ref tx, .ref kw, .int (iZ tp), .int (iZ ln), .int (iZ pl), .int (iZ en), .int (iZ ki), .int (iZ va), .int (iZ ke), .long nm, .int (iZ fk), .int (iZ fp)])), (tx, .inl (k 0, 900, .inl bf))]) [0, 1] rfl) (x_isName l D k hr1 tx kw tp ln pl en ki va ke fk fp nm bf cu ⟨⟨by omega, by omega⟩, ⟨by omega, by omega⟩, ⟨by omega, by omega⟩, by omega, ⟨by omega, by omega⟩, ⟨by omega, by omega⟩, by omega, by omega⟩ hrx) ci_X4_isName qm_X4_84 ⟨Nat.le_of_ble_eq_true rfl, Nat.le_of_ble_eq_true rfl⟩ ⟨Nat.le_of_ble_eq_true rfl, Nat.le_of_ble_eq_true rfl⟩ 0 rfl rfl rfl hl.1 rfl (Nat.le_of_ble_eq_true rfl) dX4_takeRock_44 (fun z_7 hz_7 => ?_)
        rcases hz_7 with ⟨qz_7, hz_7⟩ | ⟨qz_7, hz_7⟩
        ·
          subst qz_7
          refine lv_if_eq (tgt := 55) hx hb dX4_takeRock_47 (by decide) (fun c => absurd c (by decide)) (fun _ => ?_)
          refine lv_iload hx hb dX4_takeRock_50 (lv_at hl 0 rfl) ?_
          refine lv_goto (tgt := 56) hx hb dX4_takeRock_52 (by decide) ?_
          refine CWV (As := [.int (iZ 5)]) (rest := []) (wc := [(hr1, .inr (4, [.ref tx, .ref kw, .int (iZ tp), .int (iZ ln), .int (iZ pl), .int (iZ en), .int (iZ ki), .int (iZ va), .int (iZ ke), .long nm, .int (iZ fk), .int (iZ fp)])), (tx, .inl (k 0, 900, .inl bf)), (kw, .inl (k 2, 25, .inr (.inl kwf)))]) (wr := [(hs, .inr (5, fs)), (hN, .inl (k 2, 6, .inr (.inl nf)))]) hx hb hml hown hts hKK hP hD hS hA (x_fail l D k hr1 tx kw tp ln pl en ki va ke fk fp nm bf kwf cu 5 ⟨⟨by omega, by omega⟩, ⟨by omega, by omega⟩, ⟨by omega, by omega⟩, by omega, ⟨by omega, by omega⟩, ⟨by omega, by omega⟩, by omega, by omega⟩ hrx) ci_X4_fail qm_X4_80 ⟨Nat.le_of_ble_eq_true rfl, Nat.le_of_ble_eq_true rfl⟩ ⟨Nat.le_of_ble_eq_true rfl, Nat.le_of_ble_eq_true rfl⟩ [0, 1, 2] [3, 4] rfl rfl rfl rfl rfl (by decide) 0 rfl rfl rfl hl.1 rfl (Nat.le_of_ble_eq_true rfl) dX4_takeRock_56 (fun u_9 H locs hφ hP hD hS => ?_)
          obtain ⟨I_10, L_11, F_12, G_13⟩ := u_9
          have p_15 : (I_10 1) = xFl (tX bf ln) cu 5 ∧ (I_10 2) = xPl (tX bf ln) cu := hφ
          refine W.eq (g2 := F0 m 59 ls [.int (iZ 0)]) rfl ?_
          refine lv_pop hx hb dX4_takeRock_59 rfl ?_
          refine lv_iconst (v := iZ (-1)) hx hb dX4_takeRock_60 (by decide) ?_
          have hrk : xRk (tX bf ln) N n cu = z_4 := by unfold xRk; rw [if_pos hz_2]; exact (hf_z_4).symm
          exact EWi hx hb hr hlocks hS (fun i => [(-1), pl, en, ki, va, ke, (I_10 1), (I_10 2)].getD i 0, fun i => [0, nm].getD i 0, fun i => [].getD i (fun _ => 0), fun i => [].getD i (fun _ => 0)) rfl ⟨(show (0 ≤ tp ∧ tp ≤ 900) ∧ (0 ≤ ln ∧ ln ≤ 900) ∧ (0 ≤ pl ∧ pl ≤ en) ∧ (en ≤ ln) ∧ (0 ≤ ki ∧ ki ≤ 4) ∧ (-2147483648 ≤ va ∧ va < 2147483648) ∧ (-1 ≤ ke ∧ ke ≤ 24) from ⟨⟨by omega, by omega⟩, ⟨by omega, by omega⟩, ⟨by omega, by omega⟩, by omega, ⟨by omega, by omega⟩, ⟨by omega, by omega⟩, by omega, by omega⟩), (show (¬ ((-1) : Int) = -1 ∧ ∃ q9 : Int, xTr (tX bf ln) N n w cu = .inr (q9, (-1)) ∧ cu < q9 ∧ RDX (tX bf ln) q9 pl en ki va ke nm ∧ (0 ≤ (-1) ∧ (-1) < n) ∧ (I_10 1) = fk ∧ (I_10 2) = fp) ∨ (((-1) : Int) = -1 ∧ xTr (tX bf ln) N n w cu = .inl ((I_10 1), (I_10 2))) from (Or.inr ⟨rfl, by unfold xTr xEr; first | (rw [if_pos (show xRk (tX bf ln) N n cu = -1 from (by omega)), if_pos hz_2, p_15.1, p_15.2]; done) | (rw [if_neg (show ¬ xRk (tX bf ln) N n cu = -1 from (by omega)), if_pos (show xRk (tX bf ln) N n cu = w from (by omega)), p_15.1, p_15.2]; done)⟩))⟩ (hP.sub [2, 3, 4, 0, 1] rfl) (hD.sub [2, 3, 4, 0, 1] rfl rfl) dX4_takeRock_61
        ·
          subst qz_7
          exact absurd hz_2 hz_7
      ·
        have c_6 := (zeq (x := iZ z_4) (y := iZ (-1)) rfl rfl ⟨by omega, by omega⟩ ⟨by omega, by omega⟩).mp c_6
        refine lv_iconst (v := iZ 3) hx hb dX4_takeRock_35 (by decide) ?_
        refine lv_goto (tgt := 40) hx hb dX4_takeRock_36 (by decide) ?_
        refine lv_istore (lv' := [(4, .int (iZ 3)), (3, .int (iZ z_4)), (0, .ref hr1), (1, .ref hs), (2, .int (iZ w))]) hx hb dX4_takeRock_40 hl (by decide) rfl (fun ls hl => ?_)
        refine lv_aload_n hx hb dX4_takeRock_42 rfl (lv_at hl 2 rfl) ?_
        refine lv_aload_n hx hb dX4_takeRock_43 rfl (lv_at hl 2 rfl) ?_
        refine CPV (As := []) (rest := [.ref hr1]) hx hb hml hown hts hKK (hP.sub (ws' := [(hr1, .inr (4, [.ref tx, .ref kw, .int (iZ tp), .int (iZ ln), .int (iZ pl), .int (iZ en), .int (iZ ki), .int (iZ va), .int (iZ ke), .long nm, .int (iZ fk), .int (iZ fp)])), (tx, .inl (k 0, 900, .inl bf))]) [0, 1] rfl) (x_isName l D k hr1 tx kw tp ln pl en ki va ke fk fp nm bf cu ⟨⟨by omega, by omega⟩, ⟨by omega, by omega⟩, ⟨by omega, by omega⟩, by omega, ⟨by omega, by omega⟩, ⟨by omega, by omega⟩, by omega, by omega⟩ hrx) ci_X4_isName qm_X4_84 ⟨Nat.le_of_ble_eq_true rfl, Nat.le_of_ble_eq_true rfl⟩ ⟨Nat.le_of_ble_eq_true rfl, Nat.le_of_ble_eq_true rfl⟩ 0 rfl rfl rfl hl.1 rfl (Nat.le_of_ble_eq_true rfl) dX4_takeRock_44 (fun z_16 hz_16 => ?_)
        rcases hz_16 with ⟨qz_16, hz_16⟩ | ⟨qz_16, hz_16⟩
        ·
          subst qz_16
          refine lv_if_eq (tgt := 55) hx hb dX4_takeRock_47 (by decide) (fun c => absurd c (by decide)) (fun _ => ?_)
          refine lv_iload hx hb dX4_takeRock_50 (lv_at hl 0 rfl) ?_
          refine lv_goto (tgt := 56) hx hb dX4_takeRock_52 (by decide) ?_
          refine CWV (As := [.int (iZ 3)]) (rest := []) (wc := [(hr1, .inr (4, [.ref tx, .ref kw, .int (iZ tp), .int (iZ ln), .int (iZ pl), .int (iZ en), .int (iZ ki), .int (iZ va), .int (iZ ke), .long nm, .int (iZ fk), .int (iZ fp)])), (tx, .inl (k 0, 900, .inl bf)), (kw, .inl (k 2, 25, .inr (.inl kwf)))]) (wr := [(hs, .inr (5, fs)), (hN, .inl (k 2, 6, .inr (.inl nf)))]) hx hb hml hown hts hKK hP hD hS hA (x_fail l D k hr1 tx kw tp ln pl en ki va ke fk fp nm bf kwf cu 3 ⟨⟨by omega, by omega⟩, ⟨by omega, by omega⟩, ⟨by omega, by omega⟩, by omega, ⟨by omega, by omega⟩, ⟨by omega, by omega⟩, by omega, by omega⟩ hrx) ci_X4_fail qm_X4_80 ⟨Nat.le_of_ble_eq_true rfl, Nat.le_of_ble_eq_true rfl⟩ ⟨Nat.le_of_ble_eq_true rfl, Nat.le_of_ble_eq_true rfl⟩ [0, 1, 2] [3, 4] rfl rfl rfl rfl rfl (by decide) 0 rfl rfl rfl hl.1 rfl (Nat.le_of_ble_eq_true rfl) dX4_takeRock_56 (fun u_18 H locs hφ hP hD hS => ?_)
          obtain ⟨I_19, L_20, F_21, G_22⟩ := u_18
          have p_24 : (I_19 1) = xFl (tX bf ln) cu 3 ∧ (I_19 2) = xPl (tX bf ln) cu := hφ
          refine W.eq (g2 := F0 m 59 ls [.int (iZ 0)]) rfl ?_
          refine lv_pop hx hb dX4_takeRock_59 rfl ?_
          refine lv_iconst (v := iZ (-1)) hx hb dX4_takeRock_60 (by decide) ?_
          have hrk : xRk (tX bf ln) N n cu = z_4 := by unfold xRk; rw [if_pos hz_2]; exact (hf_z_4).symm
          exact EWi hx hb hr hlocks hS (fun i => [(-1), pl, en, ki, va, ke, (I_19 1), (I_19 2)].getD i 0, fun i => [0, nm].getD i 0, fun i => [].getD i (fun _ => 0), fun i => [].getD i (fun _ => 0)) rfl ⟨(show (0 ≤ tp ∧ tp ≤ 900) ∧ (0 ≤ ln ∧ ln ≤ 900) ∧ (0 ≤ pl ∧ pl ≤ en) ∧ (en ≤ ln) ∧ (0 ≤ ki ∧ ki ≤ 4) ∧ (-2147483648 ≤ va ∧ va < 2147483648) ∧ (-1 ≤ ke ∧ ke ≤ 24) from ⟨⟨by omega, by omega⟩, ⟨by omega, by omega⟩, ⟨by omega, by omega⟩, by omega, ⟨by omega, by omega⟩, ⟨by omega, by omega⟩, by omega, by omega⟩), (show (¬ ((-1) : Int) = -1 ∧ ∃ q9 : Int, xTr (tX bf ln) N n w cu = .inr (q9, (-1)) ∧ cu < q9 ∧ RDX (tX bf ln) q9 pl en ki va ke nm ∧ (0 ≤ (-1) ∧ (-1) < n) ∧ (I_19 1) = fk ∧ (I_19 2) = fp) ∨ (((-1) : Int) = -1 ∧ xTr (tX bf ln) N n w cu = .inl ((I_19 1), (I_19 2))) from (Or.inr ⟨rfl, by unfold xTr xEr; first | (rw [if_pos (show xRk (tX bf ln) N n cu = -1 from (by omega)), if_pos hz_2, p_24.1, p_24.2]; done) | (rw [if_neg (show ¬ xRk (tX bf ln) N n cu = -1 from (by omega)), if_pos (show xRk (tX bf ln) N n cu = w from (by omega)), p_24.1, p_24.2]; done)⟩))⟩ (hP.sub [2, 3, 4, 0, 1] rfl) (hD.sub [2, 3, 4, 0, 1] rfl rfl) dX4_takeRock_61
        ·
          subst qz_16
          exact absurd hz_2 hz_16
    ·
      have c_5 := mt (zeq (x := iZ z_4) (y := iZ (-1)) rfl rfl ⟨by omega, by omega⟩ ⟨by omega, by omega⟩).mpr c_5
      refine lv_iload_n hx hb dX4_takeRock_25 rfl (lv_at hl 0 rfl) ?_
      refine lv_iload_n hx hb dX4_takeRock_26 rfl (lv_at hl 3 rfl) ?_
      refine lv_icmp_ne (tgt := 62) hx hb dX4_takeRock_27 (by decide) (fun c_25 => ?_) (fun c_25 => ?_)
      ·
        have c_25 := mt (zeq (x := iZ z_4) (y := iZ w) rfl rfl ⟨by omega, by omega⟩ ⟨by omega, by omega⟩).mpr c_25
        refine lv_aload_n hx hb dX4_takeRock_62 rfl (lv_at hl 1 rfl) ?_
        refine CWV (As := []) (rest := []) (wc := [(hr1, .inr (4, [.ref tx, .ref kw, .int (iZ tp), .int (iZ ln), .int (iZ pl), .int (iZ en), .int (iZ ki), .int (iZ va), .int (iZ ke), .long nm, .int (iZ fk), .int (iZ fp)])), (tx, .inl (k 0, 900, .inl bf)), (kw, .inl (k 2, 25, .inr (.inl kwf)))]) (wr := [(hs, .inr (5, fs)), (hN, .inl (k 2, 6, .inr (.inl nf)))]) hx hb hml hown hts hKK hP hD hS hA (x_next l D k hr1 tx kw tp ln pl en ki va ke fk fp nm bf kwf ⟨⟨by omega, by omega⟩, ⟨by omega, by omega⟩, by omega, by omega⟩ hbf hkw) ci_X4_next qm_X4_50 ⟨Nat.le_of_ble_eq_true rfl, Nat.le_of_ble_eq_true rfl⟩ ⟨Nat.le_of_ble_eq_true rfl, Nat.le_of_ble_eq_true rfl⟩ [0, 1, 2] [3, 4] rfl rfl rfl rfl rfl (by decide) 0 rfl rfl rfl hl.1 rfl (Nat.le_of_ble_eq_true rfl) dX4_takeRock_63 (fun u_26 H locs hφ hP hD hS => ?_)
        obtain ⟨I_27, L_28, F_29, G_30⟩ := u_26
        obtain ⟨p_32, p_33⟩ : (RDX (tX bf ln) en (I_27 1) (I_27 2) (I_27 3) (I_27 4) (I_27 5) (L_28 1)) ∧ ((0 ≤ tp ∧ tp ≤ 900) ∧ (0 ≤ ln ∧ ln ≤ 900) ∧ (0 ≤ (I_27 1) ∧ (I_27 1) ≤ (I_27 2)) ∧ ((I_27 2) ≤ ln) ∧ (0 ≤ (I_27 3) ∧ (I_27 3) ≤ 4) ∧ (-2147483648 ≤ (I_27 4) ∧ (I_27 4) < 2147483648) ∧ (-1 ≤ (I_27 5) ∧ (I_27 5) ≤ 24)) := hφ
        have rx_34 := RDX.nx hrx p_32
        obtain ⟨⟨ar_35, br_35⟩, cr_35, dr_35, er_35, fr_35, gr_35, hr_35⟩ := id rx_34
        obtain ⟨t1u_36, t2u_36, t3u_36, t4u_36, t5u_36, t6u_36, t7u_36⟩ := id p_33
        refine W.eq (g2 := F0 m 66 ls []) rfl ?_
        refine lv_iload_n hx hb dX4_takeRock_66 rfl (lv_at hl 0 rfl) ?_
        have hrk : xRk (tX bf ln) N n cu = z_4 := by unfold xRk; rw [if_pos hz_2]; exact (hf_z_4).symm
        exact EWi hx hb hr hlocks hS (fun i => [z_4, (I_27 1), (I_27 2), (I_27 3), (I_27 4), (I_27 5), fk, fp].getD i 0, fun i => [0, (L_28 1)].getD i 0, fun i => [].getD i (fun _ => 0), fun i => [].getD i (fun _ => 0)) rfl ⟨(show (0 ≤ tp ∧ tp ≤ 900) ∧ (0 ≤ ln ∧ ln ≤ 900) ∧ (0 ≤ (I_27 1) ∧ (I_27 1) ≤ (I_27 2)) ∧ ((I_27 2) ≤ ln) ∧ (0 ≤ (I_27 3) ∧ (I_27 3) ≤ 4) ∧ (-2147483648 ≤ (I_27 4) ∧ (I_27 4) < 2147483648) ∧ (-1 ≤ (I_27 5) ∧ (I_27 5) ≤ 24) from ⟨⟨by omega, by omega⟩, ⟨by omega, by omega⟩, ⟨by omega, by omega⟩, by omega, ⟨by omega, by omega⟩, ⟨by omega, by omega⟩, by omega, by omega⟩), (show (¬ (z_4 : Int) = -1 ∧ ∃ q9 : Int, xTr (tX bf ln) N n w cu = .inr (q9, z_4) ∧ cu < q9 ∧ RDX (tX bf ln) q9 (I_27 1) (I_27 2) (I_27 3) (I_27 4) (I_27 5) (L_28 1) ∧ (0 ≤ z_4 ∧ z_4 < n) ∧ fk = fk ∧ fp = fp) ∨ ((z_4 : Int) = -1 ∧ xTr (tX bf ln) N n w cu = .inl (fk, fp)) from (Or.inl ⟨by omega, xEn (tX bf ln) cu, by unfold xTr; rw [if_neg (show ¬ xRk (tX bf ln) N n cu = -1 from (by omega)), if_neg (show ¬ xRk (tX bf ln) N n cu = w from (by omega)), hrk], by have := hz_2.1; omega, rx_34, ⟨by omega, by omega⟩, rfl, rfl⟩))⟩ (hP.sub [2, 3, 4, 0, 1] rfl) (hD.sub [2, 3, 4, 0, 1] rfl rfl) dX4_takeRock_67
      ·
        have c_25 := (zeq (x := iZ z_4) (y := iZ w) rfl rfl ⟨by omega, by omega⟩ ⟨by omega, by omega⟩).mp c_25
        refine lv_iload_n hx hb dX4_takeRock_30 rfl (lv_at hl 0 rfl) ?_
        refine lv_iconst (v := iZ (-1)) hx hb dX4_takeRock_31 (by decide) ?_
        refine lv_icmp_ne (tgt := 39) hx hb dX4_takeRock_32 (by decide) (fun c_37 => ?_) (fun c_37 => ?_)
        ·
          have c_37 := mt (zeq (x := iZ z_4) (y := iZ (-1)) rfl rfl ⟨by omega, by omega⟩ ⟨by omega, by omega⟩).mpr c_37
          refine lv_iconst (v := iZ 5) hx hb dX4_takeRock_39 (by decide) ?_
          refine lv_istore (lv' := [(4, .int (iZ 5)), (3, .int (iZ z_4)), (0, .ref hr1), (1, .ref hs), (2, .int (iZ w))]) hx hb dX4_takeRock_40 hl (by decide) rfl (fun ls hl => ?_)
          refine lv_aload_n hx hb dX4_takeRock_42 rfl (lv_at hl 2 rfl) ?_
          refine lv_aload_n hx hb dX4_takeRock_43 rfl (lv_at hl 2 rfl) ?_
          refine CPV (As := []) (rest := [.ref hr1]) hx hb hml hown hts hKK (hP.sub (ws' := [(hr1, .inr (4, [.ref tx, .ref kw, .int (iZ tp), .int (iZ ln), .int (iZ pl), .int (iZ en), .int (iZ ki), .int (iZ va), .int (iZ ke), .long nm, .int (iZ fk), .int (iZ fp)])), (tx, .inl (k 0, 900, .inl bf))]) [0, 1] rfl) (x_isName l D k hr1 tx kw tp ln pl en ki va ke fk fp nm bf cu ⟨⟨by omega, by omega⟩, ⟨by omega, by omega⟩, ⟨by omega, by omega⟩, by omega, ⟨by omega, by omega⟩, ⟨by omega, by omega⟩, by omega, by omega⟩ hrx) ci_X4_isName qm_X4_84 ⟨Nat.le_of_ble_eq_true rfl, Nat.le_of_ble_eq_true rfl⟩ ⟨Nat.le_of_ble_eq_true rfl, Nat.le_of_ble_eq_true rfl⟩ 0 rfl rfl rfl hl.1 rfl (Nat.le_of_ble_eq_true rfl) dX4_takeRock_44 (fun z_38 hz_38 => ?_)
          rcases hz_38 with ⟨qz_38, hz_38⟩ | ⟨qz_38, hz_38⟩
          ·
            subst qz_38
            refine lv_if_eq (tgt := 55) hx hb dX4_takeRock_47 (by decide) (fun c => absurd c (by decide)) (fun _ => ?_)
            refine lv_iload hx hb dX4_takeRock_50 (lv_at hl 0 rfl) ?_
            refine lv_goto (tgt := 56) hx hb dX4_takeRock_52 (by decide) ?_
            refine CWV (As := [.int (iZ 5)]) (rest := []) (wc := [(hr1, .inr (4, [.ref tx, .ref kw, .int (iZ tp), .int (iZ ln), .int (iZ pl), .int (iZ en), .int (iZ ki), .int (iZ va), .int (iZ ke), .long nm, .int (iZ fk), .int (iZ fp)])), (tx, .inl (k 0, 900, .inl bf)), (kw, .inl (k 2, 25, .inr (.inl kwf)))]) (wr := [(hs, .inr (5, fs)), (hN, .inl (k 2, 6, .inr (.inl nf)))]) hx hb hml hown hts hKK hP hD hS hA (x_fail l D k hr1 tx kw tp ln pl en ki va ke fk fp nm bf kwf cu 5 ⟨⟨by omega, by omega⟩, ⟨by omega, by omega⟩, ⟨by omega, by omega⟩, by omega, ⟨by omega, by omega⟩, ⟨by omega, by omega⟩, by omega, by omega⟩ hrx) ci_X4_fail qm_X4_80 ⟨Nat.le_of_ble_eq_true rfl, Nat.le_of_ble_eq_true rfl⟩ ⟨Nat.le_of_ble_eq_true rfl, Nat.le_of_ble_eq_true rfl⟩ [0, 1, 2] [3, 4] rfl rfl rfl rfl rfl (by decide) 0 rfl rfl rfl hl.1 rfl (Nat.le_of_ble_eq_true rfl) dX4_takeRock_56 (fun u_40 H locs hφ hP hD hS => ?_)
            obtain ⟨I_41, L_42, F_43, G_44⟩ := u_40
            have p_46 : (I_41 1) = xFl (tX bf ln) cu 5 ∧ (I_41 2) = xPl (tX bf ln) cu := hφ
            refine W.eq (g2 := F0 m 59 ls [.int (iZ 0)]) rfl ?_
            refine lv_pop hx hb dX4_takeRock_59 rfl ?_
            refine lv_iconst (v := iZ (-1)) hx hb dX4_takeRock_60 (by decide) ?_
            have hrk : xRk (tX bf ln) N n cu = z_4 := by unfold xRk; rw [if_pos hz_2]; exact (hf_z_4).symm
            exact EWi hx hb hr hlocks hS (fun i => [(-1), pl, en, ki, va, ke, (I_41 1), (I_41 2)].getD i 0, fun i => [0, nm].getD i 0, fun i => [].getD i (fun _ => 0), fun i => [].getD i (fun _ => 0)) rfl ⟨(show (0 ≤ tp ∧ tp ≤ 900) ∧ (0 ≤ ln ∧ ln ≤ 900) ∧ (0 ≤ pl ∧ pl ≤ en) ∧ (en ≤ ln) ∧ (0 ≤ ki ∧ ki ≤ 4) ∧ (-2147483648 ≤ va ∧ va < 2147483648) ∧ (-1 ≤ ke ∧ ke ≤ 24) from ⟨⟨by omega, by omega⟩, ⟨by omega, by omega⟩, ⟨by omega, by omega⟩, by omega, ⟨by omega, by omega⟩, ⟨by omega, by omega⟩, by omega, by omega⟩), (show (¬ ((-1) : Int) = -1 ∧ ∃ q9 : Int, xTr (tX bf ln) N n w cu = .inr (q9, (-1)) ∧ cu < q9 ∧ RDX (tX bf ln) q9 pl en ki va ke nm ∧ (0 ≤ (-1) ∧ (-1) < n) ∧ (I_41 1) = fk ∧ (I_41 2) = fp) ∨ (((-1) : Int) = -1 ∧ xTr (tX bf ln) N n w cu = .inl ((I_41 1), (I_41 2))) from (Or.inr ⟨rfl, by unfold xTr xEr; first | (rw [if_pos (show xRk (tX bf ln) N n cu = -1 from (by omega)), if_pos hz_2, p_46.1, p_46.2]; done) | (rw [if_neg (show ¬ xRk (tX bf ln) N n cu = -1 from (by omega)), if_pos (show xRk (tX bf ln) N n cu = w from (by omega)), p_46.1, p_46.2]; done)⟩))⟩ (hP.sub [2, 3, 4, 0, 1] rfl) (hD.sub [2, 3, 4, 0, 1] rfl rfl) dX4_takeRock_61
          ·
            subst qz_38
            exact absurd hz_2 hz_38
        ·
          have c_37 := (zeq (x := iZ z_4) (y := iZ (-1)) rfl rfl ⟨by omega, by omega⟩ ⟨by omega, by omega⟩).mp c_37
          refine lv_iconst (v := iZ 3) hx hb dX4_takeRock_35 (by decide) ?_
          refine lv_goto (tgt := 40) hx hb dX4_takeRock_36 (by decide) ?_
          refine lv_istore (lv' := [(4, .int (iZ 3)), (3, .int (iZ z_4)), (0, .ref hr1), (1, .ref hs), (2, .int (iZ w))]) hx hb dX4_takeRock_40 hl (by decide) rfl (fun ls hl => ?_)
          refine lv_aload_n hx hb dX4_takeRock_42 rfl (lv_at hl 2 rfl) ?_
          refine lv_aload_n hx hb dX4_takeRock_43 rfl (lv_at hl 2 rfl) ?_
          refine CPV (As := []) (rest := [.ref hr1]) hx hb hml hown hts hKK (hP.sub (ws' := [(hr1, .inr (4, [.ref tx, .ref kw, .int (iZ tp), .int (iZ ln), .int (iZ pl), .int (iZ en), .int (iZ ki), .int (iZ va), .int (iZ ke), .long nm, .int (iZ fk), .int (iZ fp)])), (tx, .inl (k 0, 900, .inl bf))]) [0, 1] rfl) (x_isName l D k hr1 tx kw tp ln pl en ki va ke fk fp nm bf cu ⟨⟨by omega, by omega⟩, ⟨by omega, by omega⟩, ⟨by omega, by omega⟩, by omega, ⟨by omega, by omega⟩, ⟨by omega, by omega⟩, by omega, by omega⟩ hrx) ci_X4_isName qm_X4_84 ⟨Nat.le_of_ble_eq_true rfl, Nat.le_of_ble_eq_true rfl⟩ ⟨Nat.le_of_ble_eq_true rfl, Nat.le_of_ble_eq_true rfl⟩ 0 rfl rfl rfl hl.1 rfl (Nat.le_of_ble_eq_true rfl) dX4_takeRock_44 (fun z_47 hz_47 => ?_)
          rcases hz_47 with ⟨qz_47, hz_47⟩ | ⟨qz_47, hz_47⟩
          ·
            subst qz_47
            refine lv_if_eq (tgt := 55) hx hb dX4_takeRock_47 (by decide) (fun c => absurd c (by decide)) (fun _ => ?_)
            refine lv_iload hx hb dX4_takeRock_50 (lv_at hl 0 rfl) ?_
            refine lv_goto (tgt := 56) hx hb dX4_takeRock_52 (by decide) ?_
            refine CWV (As := [.int (iZ 3)]) (rest := []) (wc := [(hr1, .inr (4, [.ref tx, .ref kw, .int (iZ tp), .int (iZ ln), .int (iZ pl), .int (iZ en), .int (iZ ki), .int (iZ va), .int (iZ ke), .long nm, .int (iZ fk), .int (iZ fp)])), (tx, .inl (k 0, 900, .inl bf)), (kw, .inl (k 2, 25, .inr (.inl kwf)))]) (wr := [(hs, .inr (5, fs)), (hN, .inl (k 2, 6, .inr (.inl nf)))]) hx hb hml hown hts hKK hP hD hS hA (x_fail l D k hr1 tx kw tp ln pl en ki va ke fk fp nm bf kwf cu 3 ⟨⟨by omega, by omega⟩, ⟨by omega, by omega⟩, ⟨by omega, by omega⟩, by omega, ⟨by omega, by omega⟩, ⟨by omega, by omega⟩, by omega, by omega⟩ hrx) ci_X4_fail qm_X4_80 ⟨Nat.le_of_ble_eq_true rfl, Nat.le_of_ble_eq_true rfl⟩ ⟨Nat.le_of_ble_eq_true rfl, Nat.le_of_ble_eq_true rfl⟩ [0, 1, 2] [3, 4] rfl rfl rfl rfl rfl (by decide) 0 rfl rfl rfl hl.1 rfl (Nat.le_of_ble_eq_true rfl) dX4_takeRock_56 (fun u_49 H locs hφ hP hD hS => ?_)
            obtain ⟨I_50, L_51, F_52, G_53⟩ := u_49
            have p_55 : (I_50 1) = xFl (tX bf ln) cu 3 ∧ (I_50 2) = xPl (tX bf ln) cu := hφ
            refine W.eq (g2 := F0 m 59 ls [.int (iZ 0)]) rfl ?_
            refine lv_pop hx hb dX4_takeRock_59 rfl ?_
            refine lv_iconst (v := iZ (-1)) hx hb dX4_takeRock_60 (by decide) ?_
            have hrk : xRk (tX bf ln) N n cu = z_4 := by unfold xRk; rw [if_pos hz_2]; exact (hf_z_4).symm
            exact EWi hx hb hr hlocks hS (fun i => [(-1), pl, en, ki, va, ke, (I_50 1), (I_50 2)].getD i 0, fun i => [0, nm].getD i 0, fun i => [].getD i (fun _ => 0), fun i => [].getD i (fun _ => 0)) rfl ⟨(show (0 ≤ tp ∧ tp ≤ 900) ∧ (0 ≤ ln ∧ ln ≤ 900) ∧ (0 ≤ pl ∧ pl ≤ en) ∧ (en ≤ ln) ∧ (0 ≤ ki ∧ ki ≤ 4) ∧ (-2147483648 ≤ va ∧ va < 2147483648) ∧ (-1 ≤ ke ∧ ke ≤ 24) from ⟨⟨by omega, by omega⟩, ⟨by omega, by omega⟩, ⟨by omega, by omega⟩, by omega, ⟨by omega, by omega⟩, ⟨by omega, by omega⟩, by omega, by omega⟩), (show (¬ ((-1) : Int) = -1 ∧ ∃ q9 : Int, xTr (tX bf ln) N n w cu = .inr (q9, (-1)) ∧ cu < q9 ∧ RDX (tX bf ln) q9 pl en ki va ke nm ∧ (0 ≤ (-1) ∧ (-1) < n) ∧ (I_50 1) = fk ∧ (I_50 2) = fp) ∨ (((-1) : Int) = -1 ∧ xTr (tX bf ln) N n w cu = .inl ((I_50 1), (I_50 2))) from (Or.inr ⟨rfl, by unfold xTr xEr; first | (rw [if_pos (show xRk (tX bf ln) N n cu = -1 from (by omega)), if_pos hz_2, p_55.1, p_55.2]; done) | (rw [if_neg (show ¬ xRk (tX bf ln) N n cu = -1 from (by omega)), if_pos (show xRk (tX bf ln) N n cu = w from (by omega)), p_55.1, p_55.2]; done)⟩))⟩ (hP.sub [2, 3, 4, 0, 1] rfl) (hD.sub [2, 3, 4, 0, 1] rfl rfl) dX4_takeRock_61
          ·
            subst qz_47
            exact absurd hz_2 hz_47
  ·
    subst qz_2
    refine lv_if_eq (tgt := 18) hx hb dX4_takeRock_4 (by decide) (fun _ => ?_) (fun c => absurd (by decide) c)
    refine lv_iconst (v := iZ (-1)) hx hb dX4_takeRock_18 (by decide) ?_
    refine lv_istore_n (lv' := [(3, .int (iZ (-1))), (0, .ref hr1), (1, .ref hs), (2, .int (iZ w))]) hx hb dX4_takeRock_19 rfl hl (by decide) rfl (fun ls hl => ?_)
    refine lv_iload_n hx hb dX4_takeRock_20 rfl (lv_at hl 0 rfl) ?_
    refine lv_iconst (v := iZ (-1)) hx hb dX4_takeRock_21 (by decide) ?_
    refine lv_icmp_eq (tgt := 30) hx hb dX4_takeRock_22 (by decide) (fun _ => ?_) (fun c => absurd (by decide) c)
    refine lv_iload_n hx hb dX4_takeRock_30 rfl (lv_at hl 0 rfl) ?_
    refine lv_iconst (v := iZ (-1)) hx hb dX4_takeRock_31 (by decide) ?_
    refine lv_icmp_ne (tgt := 39) hx hb dX4_takeRock_32 (by decide) (fun c => absurd (by decide) c) (fun _ => ?_)
    refine lv_iconst (v := iZ 3) hx hb dX4_takeRock_35 (by decide) ?_
    refine lv_goto (tgt := 40) hx hb dX4_takeRock_36 (by decide) ?_
    refine lv_istore (lv' := [(4, .int (iZ 3)), (3, .int (iZ (-1))), (0, .ref hr1), (1, .ref hs), (2, .int (iZ w))]) hx hb dX4_takeRock_40 hl (by decide) rfl (fun ls hl => ?_)
    refine lv_aload_n hx hb dX4_takeRock_42 rfl (lv_at hl 2 rfl) ?_
    refine lv_aload_n hx hb dX4_takeRock_43 rfl (lv_at hl 2 rfl) ?_
    refine CPV (As := []) (rest := [.ref hr1]) hx hb hml hown hts hKK (hP.sub (ws' := [(hr1, .inr (4, [.ref tx, .ref kw, .int (iZ tp), .int (iZ ln), .int (iZ pl), .int (iZ en), .int (iZ ki), .int (iZ va), .int (iZ ke), .long nm, .int (iZ fk), .int (iZ fp)])), (tx, .inl (k 0, 900, .inl bf))]) [0, 1] rfl) (x_isName l D k hr1 tx kw tp ln pl en ki va ke fk fp nm bf cu ⟨⟨by omega, by omega⟩, ⟨by omega, by omega⟩, ⟨by omega, by omega⟩, by omega, ⟨by omega, by omega⟩, ⟨by omega, by omega⟩, by omega, by omega⟩ hrx) ci_X4_isName qm_X4_84 ⟨Nat.le_of_ble_eq_true rfl, Nat.le_of_ble_eq_true rfl⟩ ⟨Nat.le_of_ble_eq_true rfl, Nat.le_of_ble_eq_true rfl⟩ 0 rfl rfl rfl hl.1 rfl (Nat.le_of_ble_eq_true rfl) dX4_takeRock_44 (fun z_59 hz_59 => ?_)
    rcases hz_59 with ⟨qz_59, hz_59⟩ | ⟨qz_59, hz_59⟩
    ·
      subst qz_59
      exact absurd hz_59 hz_2
    ·
      subst qz_59
      refine lv_if_eq (tgt := 55) hx hb dX4_takeRock_47 (by decide) (fun _ => ?_) (fun c => absurd (by decide) c)
      refine lv_iconst (v := iZ 2) hx hb dX4_takeRock_55 (by decide) ?_
      refine CWV (As := [.int (iZ 2)]) (rest := []) (wc := [(hr1, .inr (4, [.ref tx, .ref kw, .int (iZ tp), .int (iZ ln), .int (iZ pl), .int (iZ en), .int (iZ ki), .int (iZ va), .int (iZ ke), .long nm, .int (iZ fk), .int (iZ fp)])), (tx, .inl (k 0, 900, .inl bf)), (kw, .inl (k 2, 25, .inr (.inl kwf)))]) (wr := [(hs, .inr (5, fs)), (hN, .inl (k 2, 6, .inr (.inl nf)))]) hx hb hml hown hts hKK hP hD hS hA (x_fail l D k hr1 tx kw tp ln pl en ki va ke fk fp nm bf kwf cu 2 ⟨⟨by omega, by omega⟩, ⟨by omega, by omega⟩, ⟨by omega, by omega⟩, by omega, ⟨by omega, by omega⟩, ⟨by omega, by omega⟩, by omega, by omega⟩ hrx) ci_X4_fail qm_X4_80 ⟨Nat.le_of_ble_eq_true rfl, Nat.le_of_ble_eq_true rfl⟩ ⟨Nat.le_of_ble_eq_true rfl, Nat.le_of_ble_eq_true rfl⟩ [0, 1, 2] [3, 4] rfl rfl rfl rfl rfl (by decide) 0 rfl rfl rfl hl.1 rfl (Nat.le_of_ble_eq_true rfl) dX4_takeRock_56 (fun u_61 H locs hφ hP hD hS => ?_)
      obtain ⟨I_62, L_63, F_64, G_65⟩ := u_61
      have p_67 : (I_62 1) = xFl (tX bf ln) cu 2 ∧ (I_62 2) = xPl (tX bf ln) cu := hφ
      refine W.eq (g2 := F0 m 59 ls [.int (iZ 0)]) rfl ?_
      refine lv_pop hx hb dX4_takeRock_59 rfl ?_
      refine lv_iconst (v := iZ (-1)) hx hb dX4_takeRock_60 (by decide) ?_
      have hrk : xRk (tX bf ln) N n cu = -1 := by unfold xRk; rw [if_neg hz_2]
      exact EWi hx hb hr hlocks hS (fun i => [(-1), pl, en, ki, va, ke, (I_62 1), (I_62 2)].getD i 0, fun i => [0, nm].getD i 0, fun i => [].getD i (fun _ => 0), fun i => [].getD i (fun _ => 0)) rfl ⟨(show (0 ≤ tp ∧ tp ≤ 900) ∧ (0 ≤ ln ∧ ln ≤ 900) ∧ (0 ≤ pl ∧ pl ≤ en) ∧ (en ≤ ln) ∧ (0 ≤ ki ∧ ki ≤ 4) ∧ (-2147483648 ≤ va ∧ va < 2147483648) ∧ (-1 ≤ ke ∧ ke ≤ 24) from ⟨⟨by omega, by omega⟩, ⟨by omega, by omega⟩, ⟨by omega, by omega⟩, by omega, ⟨by omega, by omega⟩, ⟨by omega, by omega⟩, by omega, by omega⟩), (show (¬ ((-1) : Int) = -1 ∧ ∃ q9 : Int, xTr (tX bf ln) N n w cu = .inr (q9, (-1)) ∧ cu < q9 ∧ RDX (tX bf ln) q9 pl en ki va ke nm ∧ (0 ≤ (-1) ∧ (-1) < n) ∧ (I_62 1) = fk ∧ (I_62 2) = fp) ∨ (((-1) : Int) = -1 ∧ xTr (tX bf ln) N n w cu = .inl ((I_62 1), (I_62 2))) from (Or.inr ⟨rfl, by unfold xTr xEr; rw [if_pos hrk, if_neg hz_2, p_67.1, p_67.2]⟩))⟩ (hP.sub [2, 3, 4, 0, 1] rfl) (hD.sub [2, 3, 4, 0, 1] rfl rfl) dX4_takeRock_61
set_option maxHeartbeats 4000000 in
set_option maxRecDepth 100000 in
theorem x_readNewName (l : Launch) (D : va_G) (k : Nat → ClassId) (hq : Nat) (hr1 : Nat) (tx : Nat) (kw : Nat) (lt : Int) (tp : Int) (ln : Int) (pl : Int) (en : Int) (ki : Int) (va : Int) (ke : Int) (fk : Int) (fp : Int) (nm : Int64) (bf : Nat → Int32) (kwf : Nat → Int64) (hs : Nat) (hN : Nat) (hf : Nat) (hg : Nat) (n : Int) (ni : Int) (lw : Int) (we : Int) (nf : Nat → Int64) (f : Nat → Int32) (g : Nat → Int32) (cu : Int) (N : Int → Int) (hI1 : (0 ≤ tp ∧ tp ≤ 900) ∧ (0 ≤ ln ∧ ln ≤ 900) ∧ (0 ≤ pl ∧ pl ≤ en) ∧ (en ≤ ln) ∧ (0 ≤ ki ∧ ki ≤ 4) ∧ (-2147483648 ≤ va ∧ va < 2147483648) ∧ (-1 ≤ ke ∧ ke ≤ 24)) (hbf : rgI bf (-128) 127 900) (hkw : ∀ j : Nat, j < 25 → kwf j = lZ (kwC j)) (hrx : RDX (tX bf ln) cu pl en ki va ke nm) (hn : 0 ≤ n ∧ n < 6) (hns : xNs nf N n) : WD (σ := ((Nat → Int) × (Nat → Int64) × (Nat → Nat → Int32) × (Nat → Nat → Int64))) l yX6_readNewName cX6_readNewName 2 (some .boolean) 3 0 0 D k [.ref hq, .int (iZ n)] [(hq, .inr (6, [.ref hr1, .ref hs, .int (iZ lt)])), (hr1, .inr (4, [.ref tx, .ref kw, .int (iZ tp), .int (iZ ln), .int (iZ pl), .int (iZ en), .int (iZ ki), .int (iZ va), .int (iZ ke), .long nm, .int (iZ fk), .int (iZ fp)])), (tx, .inl (k 0, 900, .inl bf)), (kw, .inl (k 2, 25, .inr (.inl kwf))), (hs, .inr (5, [.ref hN, .ref hf, .ref hg, .int (iZ n), .int (iZ ni), .int (iZ lw), .int (iZ we)])), (hN, .inl (k 2, 6, .inr (.inl nf))), (hf, .inl (k 1, 36, .inl f)), (hg, .inl (k 1, 32, .inl g))] (fun u => some (.int (iZ (u.1 0)))) (fun u => ((0 ≤ tp ∧ tp ≤ 900) ∧ (0 ≤ ln ∧ ln ≤ 900) ∧ (0 ≤ (u.1 1) ∧ (u.1 1) ≤ (u.1 2)) ∧ ((u.1 2) ≤ ln) ∧ (0 ≤ (u.1 3) ∧ (u.1 3) ≤ 4) ∧ (-2147483648 ≤ (u.1 4) ∧ (u.1 4) < 2147483648) ∧ (-1 ≤ (u.1 5) ∧ (u.1 5) ≤ 24)) ∧ ((((u.1 0) : Int) = 1 ∧ ∃ q9 : Int, xNn (tX bf ln) N n cu = .inr q9 ∧ cu < q9 ∧ RDX (tX bf ln) q9 (u.1 1) (u.1 2) (u.1 3) (u.1 4) (u.1 5) (u.2.1 1) ∧ xNs (u.2.2.2 0) (xUp N n (xNm (tX bf ln) cu)) (n + 1) ∧ (u.1 6) = fk ∧ (u.1 7) = fp) ∨ (((u.1 0) : Int) = 0 ∧ xNn (tX bf ln) N n cu = .inl ((u.1 6), (u.1 7))))) (fun u => [(hq, .inr (6, [.ref hr1, .ref hs, .int (iZ lt)])), (hr1, .inr (4, [.ref tx, .ref kw, .int (iZ tp), .int (iZ ln), .int (iZ (u.1 1)), .int (iZ (u.1 2)), .int (iZ (u.1 3)), .int (iZ (u.1 4)), .int (iZ (u.1 5)), .long (u.2.1 1), .int (iZ (u.1 6)), .int (iZ (u.1 7))])), (tx, .inl (k 0, 900, .inl bf)), (kw, .inl (k 2, 25, .inr (.inl kwf))), (hs, .inr (5, [.ref hN, .ref hf, .ref hg, .int (iZ n), .int (iZ ni), .int (iZ lw), .int (iZ we)])), (hN, .inl (k 2, 6, .inr (.inl (u.2.2.2 0)))), (hf, .inl (k 1, 36, .inl f)), (hg, .inl (k 1, 32, .inl g))]) := by
  refine MW (by decide) (Nat.le_of_ble_eq_true rfl) (fun p e s m below meth c ls A hx hb hml hr hlocks hin hts hown hKK hP hD hS hA hl => ?_)
  have hK := hKK.1
  have hl : lv_has ls 2 [(0, .ref hq), (1, .int (iZ n))] := hl
  obtain ⟨⟨ar_1, br_1⟩, cr_1, dr_1, er_1, fr_1, gr_1, hr_1⟩ := id hrx
  refine lv_aload_n hx hb dX6_readNewName_0 rfl (lv_at hl 0 rfl) ?_
  refine va_get (D := D) (ci := 6) (v := .ref hr1) (C := RX6) (T := TX6) (N := 3) hx hb hts iX6 hown hK hP 0 rfl rfl 0 (by decide) (hts _ qf_X6_9) (fun _ h => h) rfl dX6_readNewName_1 ?_
  refine CPV (As := []) (rest := []) hx hb hml hown hts hKK (hP.sub (ws' := [(hr1, .inr (4, [.ref tx, .ref kw, .int (iZ tp), .int (iZ ln), .int (iZ pl), .int (iZ en), .int (iZ ki), .int (iZ va), .int (iZ ke), .long nm, .int (iZ fk), .int (iZ fp)])), (tx, .inl (k 0, 900, .inl bf))]) [1, 2] rfl) (x_isName l D k hr1 tx kw tp ln pl en ki va ke fk fp nm bf cu ⟨⟨by omega, by omega⟩, ⟨by omega, by omega⟩, ⟨by omega, by omega⟩, by omega, ⟨by omega, by omega⟩, ⟨by omega, by omega⟩, by omega, by omega⟩ hrx) ci_X4_isName qm_X6_70 ⟨Nat.le_of_ble_eq_true rfl, Nat.le_of_ble_eq_true rfl⟩ ⟨Nat.le_of_ble_eq_true rfl, Nat.le_of_ble_eq_true rfl⟩ 0 rfl rfl rfl hl.1 rfl (Nat.le_of_ble_eq_true rfl) dX6_readNewName_4 (fun z_2 hz_2 => ?_)
  rcases hz_2 with ⟨qz_2, hz_2⟩ | ⟨qz_2, hz_2⟩
  ·
    subst qz_2
    refine lv_if_ne (tgt := 19) hx hb dX6_readNewName_7 (by decide) (fun _ => ?_) (fun c => absurd c (by decide))
    refine lv_aload_n hx hb dX6_readNewName_19 rfl (lv_at hl 0 rfl) ?_
    refine va_get (D := D) (ci := 6) (v := .ref hs) (C := RX6) (T := TX6) (N := 3) hx hb hts iX6 hown hK hP 0 rfl rfl 1 (by decide) (hts _ qf_X6_15) (fun _ h => h) rfl dX6_readNewName_20 ?_
    refine lv_aload_n hx hb dX6_readNewName_23 rfl (lv_at hl 0 rfl) ?_
    refine va_get (D := D) (ci := 6) (v := .ref hr1) (C := RX6) (T := TX6) (N := 3) hx hb hts iX6 hown hK hP 0 rfl rfl 0 (by decide) (hts _ qf_X6_9) (fun _ h => h) rfl dX6_readNewName_24 ?_
    refine va_get (D := D) (ci := 4) (v := .long nm) (C := RX4) (T := TX4) (N := 12) hx hb hts iX4 hown hK hP 1 rfl rfl 9 (by decide) (hts _ qf_X6_73) (fun _ h => h) rfl dX6_readNewName_27 ?_
    refine CPV (As := [.long nm]) (rest := []) hx hb hml hown hts hKK (hP.sub (ws' := [(hs, .inr (5, [.ref hN, .ref hf, .ref hg, .int (iZ n), .int (iZ ni), .int (iZ lw), .int (iZ we)])), (hN, .inl (k 2, 6, .inr (.inl nf)))]) [4, 5] rfl) (k_named l D k hs hN [.ref hN, .ref hf, .ref hg, .int (iZ n), .int (iZ ni), .int (iZ lw), .int (iZ we)] rfl nf n rfl ⟨by omega, by omega⟩ nm) ci_X5_named qm_X6_77 ⟨Nat.le_of_ble_eq_true rfl, Nat.le_of_ble_eq_true rfl⟩ ⟨Nat.le_of_ble_eq_true rfl, Nat.le_of_ble_eq_true rfl⟩ 0 rfl rfl rfl hl.1 rfl (Nat.le_of_ble_eq_true rfl) dX6_readNewName_30 (fun z_4 hz_4 => ?_)
    have hm_z_4 := nm_rg hz_4
    have hf_z_4 := isNm_fn (N := N) hns (gr_1 (by omega)).1 (xNm_rg (gr_1 (by omega)).2 (by omega)) hz_4
    refine lv_iconst (v := iZ (-1)) hx hb dX6_readNewName_33 (by decide) ?_
    refine lv_icmp_eq (tgt := 46) hx hb dX6_readNewName_34 (by decide) (fun c_5 => ?_) (fun c_5 => ?_)
    ·
      have c_5 := (zeq (x := iZ z_4) (y := iZ (-1)) rfl rfl ⟨by omega, by omega⟩ ⟨by omega, by omega⟩).mp c_5
      refine lv_aload_n hx hb dX6_readNewName_46 rfl (lv_at hl 0 rfl) ?_
      refine va_get (D := D) (ci := 6) (v := .ref hs) (C := RX6) (T := TX6) (N := 3) hx hb hts iX6 hown hK hP 0 rfl rfl 1 (by decide) (hts _ qf_X6_15) (fun _ h => h) rfl dX6_readNewName_47 ?_
      refine va_get (D := D) (ci := 5) (v := .ref hN) (C := RX5) (T := TX5) (N := 7) hx hb hts iX5 hown hK hP 4 rfl rfl 0 (by decide) (hts _ qf_X6_81) (fun _ h => h) rfl dX6_readNewName_50 ?_
      refine lv_iload_n hx hb dX6_readNewName_53 rfl (lv_at hl 1 rfl) ?_
      refine lv_aload_n hx hb dX6_readNewName_54 rfl (lv_at hl 0 rfl) ?_
      refine va_get (D := D) (ci := 6) (v := .ref hr1) (C := RX6) (T := TX6) (N := 3) hx hb hts iX6 hown hK hP 0 rfl rfl 0 (by decide) (hts _ qf_X6_9) (fun _ h => h) rfl dX6_readNewName_55 ?_
      refine va_get (D := D) (ci := 4) (v := .long nm) (C := RX4) (T := TX4) (N := 12) hx hb hts iX4 hown hK hP 1 rfl rfl 9 (by decide) (hts _ qf_X6_73) (fun _ h => h) rfl dX6_readNewName_58 ?_
      refine va_last hx hb hK hP hD hS 5 2 rfl rfl (zin (e := n) (n := 6) ⟨by omega, by omega⟩ (by decide)) dX6_readNewName_61 (fun H locs hP hD hS => ?_)
      obtain ⟨f_6, hf_6⟩ : ∃ gg9, gg9 = vp_updL nf (iZ n).toNatClampNeg nm := ⟨_, rfl⟩
      rw [← hf_6] at hP hD
      refine lv_aload_n hx hb dX6_readNewName_62 rfl (lv_at hl 0 rfl) ?_
      refine va_get (D := D) (ci := 6) (v := .ref hr1) (C := RX6) (T := TX6) (N := 3) hx hb hts iX6 hown hK hP 0 rfl rfl 0 (by decide) (hts _ qf_X6_9) (fun _ h => h) rfl dX6_readNewName_63 ?_
      refine CWV (As := []) (rest := []) (wc := [(hr1, .inr (4, [.ref tx, .ref kw, .int (iZ tp), .int (iZ ln), .int (iZ pl), .int (iZ en), .int (iZ ki), .int (iZ va), .int (iZ ke), .long nm, .int (iZ fk), .int (iZ fp)])), (tx, .inl (k 0, 900, .inl bf)), (kw, .inl (k 2, 25, .inr (.inl kwf)))]) (wr := [(hq, .inr (6, [.ref hr1, .ref hs, .int (iZ lt)])), (hs, .inr (5, [.ref hN, .ref hf, .ref hg, .int (iZ n), .int (iZ ni), .int (iZ lw), .int (iZ we)])), (hN, .inl (k 2, 6, .inr (.inl f_6))), (hf, .inl (k 1, 36, .inl f)), (hg, .inl (k 1, 32, .inl g))]) hx hb hml hown hts hKK hP hD hS hA (x_next l D k hr1 tx kw tp ln pl en ki va ke fk fp nm bf kwf ⟨⟨by omega, by omega⟩, ⟨by omega, by omega⟩, by omega, by omega⟩ hbf hkw) ci_X4_next qm_X6_54 ⟨Nat.le_of_ble_eq_true rfl, Nat.le_of_ble_eq_true rfl⟩ ⟨Nat.le_of_ble_eq_true rfl, Nat.le_of_ble_eq_true rfl⟩ [1, 2, 3] [0, 4, 5, 6, 7] rfl rfl rfl rfl rfl (by decide) 0 rfl rfl rfl hl.1 rfl (Nat.le_of_ble_eq_true rfl) dX6_readNewName_66 (fun u_7 H locs hφ hP hD hS => ?_)
      obtain ⟨I_8, L_9, F_10, G_11⟩ := u_7
      obtain ⟨p_13, p_14⟩ : (RDX (tX bf ln) en (I_8 1) (I_8 2) (I_8 3) (I_8 4) (I_8 5) (L_9 1)) ∧ ((0 ≤ tp ∧ tp ≤ 900) ∧ (0 ≤ ln ∧ ln ≤ 900) ∧ (0 ≤ (I_8 1) ∧ (I_8 1) ≤ (I_8 2)) ∧ ((I_8 2) ≤ ln) ∧ (0 ≤ (I_8 3) ∧ (I_8 3) ≤ 4) ∧ (-2147483648 ≤ (I_8 4) ∧ (I_8 4) < 2147483648) ∧ (-1 ≤ (I_8 5) ∧ (I_8 5) ≤ 24)) := hφ
      have rx_15 := RDX.nx hrx p_13
      obtain ⟨⟨ar_16, br_16⟩, cr_16, dr_16, er_16, fr_16, gr_16, hr_16⟩ := id rx_15
      obtain ⟨t1u_17, t2u_17, t3u_17, t4u_17, t5u_17, t6u_17, t7u_17⟩ := id p_14
      refine W.eq (g2 := F0 m 69 ls []) rfl ?_
      refine lv_iconst (v := iZ 1) hx hb dX6_readNewName_69 (by decide) ?_
      have hcr := xNm_rg (gr_1 (by omega)).2 (by omega)
      exact EWz hx hb hr hlocks hS (fun i => [1, (I_8 1), (I_8 2), (I_8 3), (I_8 4), (I_8 5), fk, fp].getD i 0, fun i => [0, (L_9 1)].getD i 0, fun i => [].getD i (fun _ => 0), fun i => [f_6].getD i (fun _ => 0)) rfl rfl ⟨(show (0 ≤ tp ∧ tp ≤ 900) ∧ (0 ≤ ln ∧ ln ≤ 900) ∧ (0 ≤ (I_8 1) ∧ (I_8 1) ≤ (I_8 2)) ∧ ((I_8 2) ≤ ln) ∧ (0 ≤ (I_8 3) ∧ (I_8 3) ≤ 4) ∧ (-2147483648 ≤ (I_8 4) ∧ (I_8 4) < 2147483648) ∧ (-1 ≤ (I_8 5) ∧ (I_8 5) ≤ 24) from ⟨⟨by omega, by omega⟩, ⟨by omega, by omega⟩, ⟨by omega, by omega⟩, by omega, ⟨by omega, by omega⟩, ⟨by omega, by omega⟩, by omega, by omega⟩), (show ((1 : Int) = 1 ∧ ∃ q9 : Int, xNn (tX bf ln) N n cu = .inr q9 ∧ cu < q9 ∧ RDX (tX bf ln) q9 (I_8 1) (I_8 2) (I_8 3) (I_8 4) (I_8 5) (L_9 1) ∧ xNs f_6 (xUp N n (xNm (tX bf ln) cu)) (n + 1) ∧ fk = fk ∧ fp = fp) ∨ ((1 : Int) = 0 ∧ xNn (tX bf ln) N n cu = .inl (fk, fp)) from (Or.inl ⟨rfl, xEn (tX bf ln) cu, by unfold xNn; rw [if_pos hz_2, if_pos (show xFn N n (xNm (tX bf ln) cu) = -1 from (by omega))], by have := hz_2.1; omega, rx_15, xNs.up hns ⟨by omega, by omega⟩ hf_6 (gr_1 (by omega)).1 (by have := hz_2.2.2; omega), rfl, rfl⟩))⟩ (hP.sub [0, 5, 6, 7, 1, 2, 3, 4] rfl) (hD.sub [0, 5, 6, 7, 1, 2, 3, 4] rfl rfl) dX6_readNewName_70
    ·
      have c_5 := mt (zeq (x := iZ z_4) (y := iZ (-1)) rfl rfl ⟨by omega, by omega⟩ ⟨by omega, by omega⟩).mpr c_5
      refine lv_aload_n hx hb dX6_readNewName_37 rfl (lv_at hl 0 rfl) ?_
      refine va_get (D := D) (ci := 6) (v := .ref hr1) (C := RX6) (T := TX6) (N := 3) hx hb hts iX6 hown hK hP 0 rfl rfl 0 (by decide) (hts _ qf_X6_9) (fun _ h => h) rfl dX6_readNewName_38 ?_
      refine lv_iconst (v := iZ 3) hx hb dX6_readNewName_41 (by decide) ?_
      refine CWV (As := [.int (iZ 3)]) (rest := []) (wc := [(hr1, .inr (4, [.ref tx, .ref kw, .int (iZ tp), .int (iZ ln), .int (iZ pl), .int (iZ en), .int (iZ ki), .int (iZ va), .int (iZ ke), .long nm, .int (iZ fk), .int (iZ fp)])), (tx, .inl (k 0, 900, .inl bf)), (kw, .inl (k 2, 25, .inr (.inl kwf)))]) (wr := [(hq, .inr (6, [.ref hr1, .ref hs, .int (iZ lt)])), (hs, .inr (5, [.ref hN, .ref hf, .ref hg, .int (iZ n), .int (iZ ni), .int (iZ lw), .int (iZ we)])), (hN, .inl (k 2, 6, .inr (.inl nf))), (hf, .inl (k 1, 36, .inl f)), (hg, .inl (k 1, 32, .inl g))]) hx hb hml hown hts hKK hP hD hS hA (x_fail l D k hr1 tx kw tp ln pl en ki va ke fk fp nm bf kwf cu 3 ⟨⟨by omega, by omega⟩, ⟨by omega, by omega⟩, ⟨by omega, by omega⟩, by omega, ⟨by omega, by omega⟩, ⟨by omega, by omega⟩, by omega, by omega⟩ hrx) ci_X4_fail qm_X6_47 ⟨Nat.le_of_ble_eq_true rfl, Nat.le_of_ble_eq_true rfl⟩ ⟨Nat.le_of_ble_eq_true rfl, Nat.le_of_ble_eq_true rfl⟩ [1, 2, 3] [0, 4, 5, 6, 7] rfl rfl rfl rfl rfl (by decide) 0 rfl rfl rfl hl.1 rfl (Nat.le_of_ble_eq_true rfl) dX6_readNewName_42 (fun u_18 H locs hφ hP hD hS => ?_)
      obtain ⟨I_19, L_20, F_21, G_22⟩ := u_18
      have p_24 : (I_19 1) = xFl (tX bf ln) cu 3 ∧ (I_19 2) = xPl (tX bf ln) cu := hφ
      refine W.eq (g2 := F0 m 45 ls [.int (iZ 0)]) rfl ?_
      exact EWz hx hb hr hlocks hS (fun i => [0, pl, en, ki, va, ke, (I_19 1), (I_19 2)].getD i 0, fun i => [0, nm].getD i 0, fun i => [].getD i (fun _ => 0), fun i => [nf].getD i (fun _ => 0)) rfl rfl ⟨(show (0 ≤ tp ∧ tp ≤ 900) ∧ (0 ≤ ln ∧ ln ≤ 900) ∧ (0 ≤ pl ∧ pl ≤ en) ∧ (en ≤ ln) ∧ (0 ≤ ki ∧ ki ≤ 4) ∧ (-2147483648 ≤ va ∧ va < 2147483648) ∧ (-1 ≤ ke ∧ ke ≤ 24) from ⟨⟨by omega, by omega⟩, ⟨by omega, by omega⟩, ⟨by omega, by omega⟩, by omega, ⟨by omega, by omega⟩, ⟨by omega, by omega⟩, by omega, by omega⟩), (show ((0 : Int) = 1 ∧ ∃ q9 : Int, xNn (tX bf ln) N n cu = .inr q9 ∧ cu < q9 ∧ RDX (tX bf ln) q9 pl en ki va ke nm ∧ xNs nf (xUp N n (xNm (tX bf ln) cu)) (n + 1) ∧ (I_19 1) = fk ∧ (I_19 2) = fp) ∨ ((0 : Int) = 0 ∧ xNn (tX bf ln) N n cu = .inl ((I_19 1), (I_19 2))) from (Or.inr ⟨rfl, by unfold xNn xEr; rw [if_pos hz_2, if_neg (show ¬ xFn N n (xNm (tX bf ln) cu) = -1 from (by omega)), p_24.1, p_24.2]⟩))⟩ (hP.sub [0, 5, 6, 7, 1, 2, 3, 4] rfl) (hD.sub [0, 5, 6, 7, 1, 2, 3, 4] rfl rfl) dX6_readNewName_45
  ·
    subst qz_2
    refine lv_if_ne (tgt := 19) hx hb dX6_readNewName_7 (by decide) (fun c => absurd (by decide) c) (fun _ => ?_)
    refine lv_aload_n hx hb dX6_readNewName_10 rfl (lv_at hl 0 rfl) ?_
    refine va_get (D := D) (ci := 6) (v := .ref hr1) (C := RX6) (T := TX6) (N := 3) hx hb hts iX6 hown hK hP 0 rfl rfl 0 (by decide) (hts _ qf_X6_9) (fun _ h => h) rfl dX6_readNewName_11 ?_
    refine lv_iconst (v := iZ 2) hx hb dX6_readNewName_14 (by decide) ?_
    refine CWV (As := [.int (iZ 2)]) (rest := []) (wc := [(hr1, .inr (4, [.ref tx, .ref kw, .int (iZ tp), .int (iZ ln), .int (iZ pl), .int (iZ en), .int (iZ ki), .int (iZ va), .int (iZ ke), .long nm, .int (iZ fk), .int (iZ fp)])), (tx, .inl (k 0, 900, .inl bf)), (kw, .inl (k 2, 25, .inr (.inl kwf)))]) (wr := [(hq, .inr (6, [.ref hr1, .ref hs, .int (iZ lt)])), (hs, .inr (5, [.ref hN, .ref hf, .ref hg, .int (iZ n), .int (iZ ni), .int (iZ lw), .int (iZ we)])), (hN, .inl (k 2, 6, .inr (.inl nf))), (hf, .inl (k 1, 36, .inl f)), (hg, .inl (k 1, 32, .inl g))]) hx hb hml hown hts hKK hP hD hS hA (x_fail l D k hr1 tx kw tp ln pl en ki va ke fk fp nm bf kwf cu 2 ⟨⟨by omega, by omega⟩, ⟨by omega, by omega⟩, ⟨by omega, by omega⟩, by omega, ⟨by omega, by omega⟩, ⟨by omega, by omega⟩, by omega, by omega⟩ hrx) ci_X4_fail qm_X6_47 ⟨Nat.le_of_ble_eq_true rfl, Nat.le_of_ble_eq_true rfl⟩ ⟨Nat.le_of_ble_eq_true rfl, Nat.le_of_ble_eq_true rfl⟩ [1, 2, 3] [0, 4, 5, 6, 7] rfl rfl rfl rfl rfl (by decide) 0 rfl rfl rfl hl.1 rfl (Nat.le_of_ble_eq_true rfl) dX6_readNewName_15 (fun u_26 H locs hφ hP hD hS => ?_)
    obtain ⟨I_27, L_28, F_29, G_30⟩ := u_26
    have p_32 : (I_27 1) = xFl (tX bf ln) cu 2 ∧ (I_27 2) = xPl (tX bf ln) cu := hφ
    refine W.eq (g2 := F0 m 18 ls [.int (iZ 0)]) rfl ?_
    exact EWz hx hb hr hlocks hS (fun i => [0, pl, en, ki, va, ke, (I_27 1), (I_27 2)].getD i 0, fun i => [0, nm].getD i 0, fun i => [].getD i (fun _ => 0), fun i => [nf].getD i (fun _ => 0)) rfl rfl ⟨(show (0 ≤ tp ∧ tp ≤ 900) ∧ (0 ≤ ln ∧ ln ≤ 900) ∧ (0 ≤ pl ∧ pl ≤ en) ∧ (en ≤ ln) ∧ (0 ≤ ki ∧ ki ≤ 4) ∧ (-2147483648 ≤ va ∧ va < 2147483648) ∧ (-1 ≤ ke ∧ ke ≤ 24) from ⟨⟨by omega, by omega⟩, ⟨by omega, by omega⟩, ⟨by omega, by omega⟩, by omega, ⟨by omega, by omega⟩, ⟨by omega, by omega⟩, by omega, by omega⟩), (show ((0 : Int) = 1 ∧ ∃ q9 : Int, xNn (tX bf ln) N n cu = .inr q9 ∧ cu < q9 ∧ RDX (tX bf ln) q9 pl en ki va ke nm ∧ xNs nf (xUp N n (xNm (tX bf ln) cu)) (n + 1) ∧ (I_27 1) = fk ∧ (I_27 2) = fp) ∨ ((0 : Int) = 0 ∧ xNn (tX bf ln) N n cu = .inl ((I_27 1), (I_27 2))) from (Or.inr ⟨rfl, by unfold xNn xEr; rw [if_neg hz_2, p_32.1, p_32.2]⟩))⟩ (hP.sub [0, 5, 6, 7, 1, 2, 3, 4] rfl) (hD.sub [0, 5, 6, 7, 1, 2, 3, 4] rfl rfl) dX6_readNewName_18
set_option maxHeartbeats 4000000 in
set_option maxRecDepth 100000 in
theorem x_readFact (l : Launch) (D : va_G) (k : Nat → ClassId) (hq : Nat) (hr1 : Nat) (tx : Nat) (kw : Nat) (lt : Int) (tp : Int) (ln : Int) (pl : Int) (en : Int) (ki : Int) (va : Int) (ke : Int) (fk : Int) (fp : Int) (nm : Int64) (bf : Nat → Int32) (kwf : Nat → Int64) (hs : Nat) (hN : Nat) (hf : Nat) (hg : Nat) (n : Int) (ni : Int) (lw : Int) (we : Int) (nf : Nat → Int64) (f : Nat → Int32) (g : Nat → Int32) (cu : Int) (b6 : Int) (w6 : Int) (l6 : Int) (m6 : Int) (F : Int → Int) (hI1 : (0 ≤ tp ∧ tp ≤ 900) ∧ (0 ≤ ln ∧ ln ≤ 900) ∧ (0 ≤ pl ∧ pl ≤ en) ∧ (en ≤ ln) ∧ (0 ≤ ki ∧ ki ≤ 4) ∧ (-2147483648 ≤ va ∧ va < 2147483648) ∧ (-1 ≤ ke ∧ ke ≤ 24)) (hbf : rgI bf (-128) 127 900) (hkw : ∀ j : Nat, j < 25 → kwf j = lZ (kwC j)) (hrx : RDX (tX bf ln) cu pl en ki va ke nm) (hn : 0 ≤ n ∧ n < 6) (hb6 : 0 ≤ b6 ∧ b6 ≤ 100) (hw6 : 0 ≤ w6 ∧ w6 ≤ 5) (hl6 : 0 ≤ l6 ∧ l6 ≤ 1000) (hm6 : 0 ≤ m6 ∧ m6 ≤ 1000) : WD (σ := ((Nat → Int) × (Nat → Int64) × (Nat → Nat → Int32) × (Nat → Nat → Int64))) l yX6_readFact cX6_readFact 6 (some .boolean) 3 0 0 D k [.ref hq, .int (iZ b6), .int (iZ w6), .int (iZ l6), .int (iZ m6)] [(hq, .inr (6, [.ref hr1, .ref hs, .int (iZ lt)])), (hr1, .inr (4, [.ref tx, .ref kw, .int (iZ tp), .int (iZ ln), .int (iZ pl), .int (iZ en), .int (iZ ki), .int (iZ va), .int (iZ ke), .long nm, .int (iZ fk), .int (iZ fp)])), (tx, .inl (k 0, 900, .inl bf)), (kw, .inl (k 2, 25, .inr (.inl kwf))), (hs, .inr (5, [.ref hN, .ref hf, .ref hg, .int (iZ n), .int (iZ ni), .int (iZ lw), .int (iZ we)])), (hN, .inl (k 2, 6, .inr (.inl nf))), (hf, .inl (k 1, 36, .inl f)), (hg, .inl (k 1, 32, .inl g))] (fun u => some (.int (iZ (u.1 0)))) (fun u => ((0 ≤ tp ∧ tp ≤ 900) ∧ (0 ≤ ln ∧ ln ≤ 900) ∧ (0 ≤ (u.1 1) ∧ (u.1 1) ≤ (u.1 2)) ∧ ((u.1 2) ≤ ln) ∧ (0 ≤ (u.1 3) ∧ (u.1 3) ≤ 4) ∧ (-2147483648 ≤ (u.1 4) ∧ (u.1 4) < 2147483648) ∧ (-1 ≤ (u.1 5) ∧ (u.1 5) ≤ 24)) ∧ ((((u.1 0) : Int) = 1 ∧ ∃ (q9 v9 : Int), xFF (tX bf ln) b6 w6 l6 m6 n cu F = .inr (q9, xUp F ((n * 6) + w6) v9) ∧ cu < q9 ∧ RDX (tX bf ln) q9 (u.1 1) (u.1 2) (u.1 3) (u.1 4) (u.1 5) (u.2.1 1) ∧ (l6 ≤ v9 ∧ v9 ≤ m6) ∧ (u.2.2.1 0) = upd f (iZ ((n * 6) + w6)).toNatClampNeg (iZ v9) ∧ (u.1 6) = fk ∧ (u.1 7) = fp) ∨ (((u.1 0) : Int) = 0 ∧ xFF (tX bf ln) b6 w6 l6 m6 n cu F = .inl ((u.1 6), (u.1 7))))) (fun u => [(hq, .inr (6, [.ref hr1, .ref hs, .int (iZ lt)])), (hr1, .inr (4, [.ref tx, .ref kw, .int (iZ tp), .int (iZ ln), .int (iZ (u.1 1)), .int (iZ (u.1 2)), .int (iZ (u.1 3)), .int (iZ (u.1 4)), .int (iZ (u.1 5)), .long (u.2.1 1), .int (iZ (u.1 6)), .int (iZ (u.1 7))])), (tx, .inl (k 0, 900, .inl bf)), (kw, .inl (k 2, 25, .inr (.inl kwf))), (hs, .inr (5, [.ref hN, .ref hf, .ref hg, .int (iZ n), .int (iZ ni), .int (iZ lw), .int (iZ we)])), (hN, .inl (k 2, 6, .inr (.inl nf))), (hf, .inl (k 1, 36, .inl (u.2.2.1 0))), (hg, .inl (k 1, 32, .inl g))]) := by
  refine MW (by decide) (Nat.le_of_ble_eq_true rfl) (fun p e s m below meth c ls A hx hb hml hr hlocks hin hts hown hKK hP hD hS hA hl => ?_)
  have hK := hKK.1
  have hl : lv_has ls 6 [(0, .ref hq), (1, .int (iZ b6)), (2, .int (iZ w6)), (3, .int (iZ l6)), (4, .int (iZ m6))] := hl
  obtain ⟨⟨ar_1, br_1⟩, cr_1, dr_1, er_1, fr_1, gr_1, hr_1⟩ := id hrx
  refine lv_aload_n hx hb dX6_readFact_0 rfl (lv_at hl 0 rfl) ?_
  refine va_get (D := D) (ci := 6) (v := .ref hr1) (C := RX6) (T := TX6) (N := 3) hx hb hts iX6 hown hK hP 0 rfl rfl 0 (by decide) (hts _ qf_X6_9) (fun _ h => h) rfl dX6_readFact_1 ?_
  refine lv_iload_n hx hb dX6_readFact_4 rfl (lv_at hl 1 rfl) ?_
  refine CWV (As := [.int (iZ b6)]) (rest := []) (wc := [(hr1, .inr (4, [.ref tx, .ref kw, .int (iZ tp), .int (iZ ln), .int (iZ pl), .int (iZ en), .int (iZ ki), .int (iZ va), .int (iZ ke), .long nm, .int (iZ fk), .int (iZ fp)])), (tx, .inl (k 0, 900, .inl bf)), (kw, .inl (k 2, 25, .inr (.inl kwf)))]) (wr := [(hq, .inr (6, [.ref hr1, .ref hs, .int (iZ lt)])), (hs, .inr (5, [.ref hN, .ref hf, .ref hg, .int (iZ n), .int (iZ ni), .int (iZ lw), .int (iZ we)])), (hN, .inl (k 2, 6, .inr (.inl nf))), (hf, .inl (k 1, 36, .inl f)), (hg, .inl (k 1, 32, .inl g))]) hx hb hml hown hts hKK hP hD hS hA (x_takeWord l D k hr1 tx kw tp ln pl en ki va ke fk fp nm bf kwf cu b6 ⟨⟨by omega, by omega⟩, ⟨by omega, by omega⟩, ⟨by omega, by omega⟩, by omega, ⟨by omega, by omega⟩, ⟨by omega, by omega⟩, by omega, by omega⟩ hbf hkw hrx ⟨by omega, by omega⟩) ci_X4_takeWord qm_X6_85 ⟨Nat.le_of_ble_eq_true rfl, Nat.le_of_ble_eq_true rfl⟩ ⟨Nat.le_of_ble_eq_true rfl, Nat.le_of_ble_eq_true rfl⟩ [1, 2, 3] [0, 4, 5, 6, 7] rfl rfl rfl rfl rfl (by decide) 0 rfl rfl rfl hl.1 rfl (Nat.le_of_ble_eq_true rfl) dX6_readFact_5 (fun u_2 H locs hφ hP hD hS => ?_)
  obtain ⟨I_3, L_4, F_5, G_6⟩ := u_2
  obtain ⟨p_8, p_9⟩ : ((0 ≤ tp ∧ tp ≤ 900) ∧ (0 ≤ ln ∧ ln ≤ 900) ∧ (0 ≤ (I_3 1) ∧ (I_3 1) ≤ (I_3 2)) ∧ ((I_3 2) ≤ ln) ∧ (0 ≤ (I_3 3) ∧ (I_3 3) ≤ 4) ∧ (-2147483648 ≤ (I_3 4) ∧ (I_3 4) < 2147483648) ∧ (-1 ≤ (I_3 5) ∧ (I_3 5) ≤ 24)) ∧ ((((I_3 0) : Int) = 1 ∧ ∃ q9 : Int, xTw (tX bf ln) b6 cu = .inr q9 ∧ cu < q9 ∧ RDX (tX bf ln) q9 (I_3 1) (I_3 2) (I_3 3) (I_3 4) (I_3 5) (L_4 1) ∧ (I_3 6) = fk ∧ (I_3 7) = fp) ∨ (((I_3 0) : Int) = 0 ∧ xTw (tX bf ln) b6 cu = .inl ((I_3 6), (I_3 7)))) := hφ
  refine W.eq (g2 := F0 m 8 ls [.int (iZ (I_3 0))]) rfl ?_
  rcases p_9 with ⟨qt_10, cut_10, st_10, lt_10, xt_10, ut_10, vt_10⟩ | ⟨qt_10, st_10⟩
  ·
    rw [qt_10]
    obtain ⟨⟨ar_11, br_11⟩, cr_11, dr_11, er_11, fr_11, gr_11, hr_11⟩ := id xt_10
    refine lv_if_ne (tgt := 13) hx hb dX6_readFact_8 (by decide) (fun _ => ?_) (fun c => absurd c (by decide))
    refine lv_aload_n hx hb dX6_readFact_13 rfl (lv_at hl 0 rfl) ?_
    refine va_get (D := D) (ci := 6) (v := .ref hr1) (C := RX6) (T := TX6) (N := 3) hx hb hts iX6 hown hK hP 0 rfl rfl 0 (by decide) (hts _ qf_X6_9) (fun _ h => h) rfl dX6_readFact_14 ?_
    refine lv_iload_n hx hb dX6_readFact_17 rfl (lv_at hl 3 rfl) ?_
    refine lv_iload hx hb dX6_readFact_18 (lv_at hl 4 rfl) ?_
    refine CWV (As := [.int (iZ l6), .int (iZ m6)]) (rest := []) (wc := [(hr1, .inr (4, [.ref tx, .ref kw, .int (iZ tp), .int (iZ ln), .int (iZ (I_3 1)), .int (iZ (I_3 2)), .int (iZ (I_3 3)), .int (iZ (I_3 4)), .int (iZ (I_3 5)), .long (L_4 1), .int (iZ (I_3 6)), .int (iZ (I_3 7))])), (tx, .inl (k 0, 900, .inl bf)), (kw, .inl (k 2, 25, .inr (.inl kwf)))]) (wr := [(hq, .inr (6, [.ref hr1, .ref hs, .int (iZ lt)])), (hs, .inr (5, [.ref hN, .ref hf, .ref hg, .int (iZ n), .int (iZ ni), .int (iZ lw), .int (iZ we)])), (hN, .inl (k 2, 6, .inr (.inl nf))), (hf, .inl (k 1, 36, .inl f)), (hg, .inl (k 1, 32, .inl g))]) hx hb hml hown hts hKK hP hD hS hA (x_takeNumber l D k hr1 tx kw tp ln (I_3 1) (I_3 2) (I_3 3) (I_3 4) (I_3 5) (I_3 6) (I_3 7) (L_4 1) bf kwf cut_10 l6 m6 ⟨⟨by omega, by omega⟩, ⟨by omega, by omega⟩, ⟨by omega, by omega⟩, by omega, ⟨by omega, by omega⟩, ⟨by omega, by omega⟩, by omega, by omega⟩ hbf hkw xt_10 ⟨by omega, by omega⟩ ⟨by omega, by omega⟩) ci_X4_takeNumber qm_X6_88 ⟨Nat.le_of_ble_eq_true rfl, Nat.le_of_ble_eq_true rfl⟩ ⟨Nat.le_of_ble_eq_true rfl, Nat.le_of_ble_eq_true rfl⟩ [5, 6, 7] [0, 1, 2, 3, 4] rfl rfl rfl rfl rfl (by decide) 0 rfl rfl rfl hl.1 rfl (Nat.le_of_ble_eq_true rfl) dX6_readFact_20 (fun u_13 H locs hφ hP hD hS => ?_)
    obtain ⟨I_14, L_15, F_16, G_17⟩ := u_13
    obtain ⟨p_19, p_20⟩ : ((0 ≤ tp ∧ tp ≤ 900) ∧ (0 ≤ ln ∧ ln ≤ 900) ∧ (0 ≤ (I_14 1) ∧ (I_14 1) ≤ (I_14 2)) ∧ ((I_14 2) ≤ ln) ∧ (0 ≤ (I_14 3) ∧ (I_14 3) ≤ 4) ∧ (-2147483648 ≤ (I_14 4) ∧ (I_14 4) < 2147483648) ∧ (-1 ≤ (I_14 5) ∧ (I_14 5) ≤ 24)) ∧ ((¬ ((I_14 0) : Int) = -1 ∧ ∃ q9 : Int, xTn (tX bf ln) l6 m6 cut_10 = .inr (q9, (I_14 0)) ∧ cut_10 < q9 ∧ RDX (tX bf ln) q9 (I_14 1) (I_14 2) (I_14 3) (I_14 4) (I_14 5) (L_15 1) ∧ (l6 ≤ (I_14 0) ∧ (I_14 0) ≤ m6) ∧ (I_14 6) = (I_3 6) ∧ (I_14 7) = (I_3 7)) ∨ (((I_14 0) : Int) = -1 ∧ xTn (tX bf ln) l6 m6 cut_10 = .inl ((I_14 6), (I_14 7)))) := hφ
    refine W.eq (g2 := F0 m 23 ls [.int (iZ (I_14 0))]) rfl ?_
    rcases p_20 with ⟨qt_21, cut_21, st_21, lt_21, xt_21, rt_21, ut_21, vt_21⟩ | ⟨qt_21, st_21⟩
    ·
      obtain ⟨⟨ar_22, br_22⟩, cr_22, dr_22, er_22, fr_22, gr_22, hr_22⟩ := id xt_21
      refine lv_istore (lv' := [(5, .int (iZ (I_14 0))), (0, .ref hq), (1, .int (iZ b6)), (2, .int (iZ w6)), (3, .int (iZ l6)), (4, .int (iZ m6))]) hx hb dX6_readFact_23 hl (by decide) rfl (fun ls hl => ?_)
      refine lv_aload_n hx hb dX6_readFact_25 rfl (lv_at hl 1 rfl) ?_
      refine va_get (D := D) (ci := 6) (v := .ref hs) (C := RX6) (T := TX6) (N := 3) hx hb hts iX6 hown hK hP 0 rfl rfl 1 (by decide) (hts _ qf_X6_15) (fun _ h => h) rfl dX6_readFact_26 ?_
      refine va_get (D := D) (ci := 5) (v := .ref hf) (C := RX5) (T := TX5) (N := 7) hx hb hts iX5 hown hK hP 1 rfl rfl 1 (by decide) (hts _ qf_X6_92) (fun _ h => h) rfl dX6_readFact_29 ?_
      refine lv_aload_n hx hb dX6_readFact_32 rfl (lv_at hl 1 rfl) ?_
      refine va_get (D := D) (ci := 6) (v := .ref hs) (C := RX6) (T := TX6) (N := 3) hx hb hts iX6 hown hK hP 0 rfl rfl 1 (by decide) (hts _ qf_X6_15) (fun _ h => h) rfl dX6_readFact_33 ?_
      refine va_get (D := D) (ci := 5) (v := .int (iZ n)) (C := RX5) (T := TX5) (N := 7) hx hb hts iX5 hown hK hP 1 rfl rfl 3 (by decide) (hts _ qf_X6_51) (fun _ h => h) rfl dX6_readFact_36 ?_
      refine lv_bipush (v := iZ 6) hx hb dX6_readFact_39 (by decide) ?_
      refine lv_imul hx hb dX6_readFact_41 ?_
      refine lv_topi (fun x_23 ex_23 => ?_)
      obtain rfl : x_23 = iZ (n * 6) := ex_23.trans (iZ_mul n 6)
      refine lv_iload_n hx hb dX6_readFact_42 rfl (lv_at hl 3 rfl) ?_
      refine lv_iadd hx hb dX6_readFact_43 ?_
      refine lv_topi (fun x_24 ex_24 => ?_)
      obtain rfl : x_24 = iZ ((n * 6) + w6) := ex_24.trans (iZ_add (n * 6) w6)
      refine lv_iload hx hb dX6_readFact_44 (lv_at hl 0 rfl) ?_
      refine va_iast hx hb hK hP hD hS 3 1 rfl rfl (zin (e := ((n * 6) + w6)) (n := 36) ⟨by omega, by omega⟩ (by decide)) dX6_readFact_46 (fun H locs hP hD hS => ?_)
      obtain ⟨f_25, hf_25⟩ : ∃ gg9, gg9 = upd f (iZ ((n * 6) + w6)).toNatClampNeg (iZ (I_14 0)) := ⟨_, rfl⟩
      rw [← hf_25] at hP hD
      refine lv_iload hx hb dX6_readFact_47 (lv_at hl 0 rfl) ?_
      refine lv_iconst (v := iZ (-1)) hx hb dX6_readFact_49 (by decide) ?_
      refine lv_icmp_eq (tgt := 57) hx hb dX6_readFact_50 (by decide) (fun c_26 => ?_) (fun c_26 => ?_)
      ·
        have c_26 := (zeq (x := iZ (I_14 0)) (y := iZ (-1)) rfl rfl ⟨by omega, by omega⟩ ⟨by omega, by omega⟩).mp c_26
        exact absurd c_26 (by omega)
      ·
        have c_26 := mt (zeq (x := iZ (I_14 0)) (y := iZ (-1)) rfl rfl ⟨by omega, by omega⟩ ⟨by omega, by omega⟩).mpr c_26
        refine lv_iconst (v := iZ 1) hx hb dX6_readFact_53 (by decide) ?_
        refine lv_goto (tgt := 58) hx hb dX6_readFact_54 (by decide) ?_
        exact EWz hx hb hr hlocks hS (fun i => [1, (I_14 1), (I_14 2), (I_14 3), (I_14 4), (I_14 5), (I_14 6), (I_14 7)].getD i 0, fun i => [0, (L_15 1)].getD i 0, fun i => [f_25].getD i (fun _ => 0), fun i => [].getD i (fun _ => 0)) rfl rfl ⟨(show (0 ≤ tp ∧ tp ≤ 900) ∧ (0 ≤ ln ∧ ln ≤ 900) ∧ (0 ≤ (I_14 1) ∧ (I_14 1) ≤ (I_14 2)) ∧ ((I_14 2) ≤ ln) ∧ (0 ≤ (I_14 3) ∧ (I_14 3) ≤ 4) ∧ (-2147483648 ≤ (I_14 4) ∧ (I_14 4) < 2147483648) ∧ (-1 ≤ (I_14 5) ∧ (I_14 5) ≤ 24) from ⟨⟨by omega, by omega⟩, ⟨by omega, by omega⟩, ⟨by omega, by omega⟩, by omega, ⟨by omega, by omega⟩, ⟨by omega, by omega⟩, by omega, by omega⟩), (show ((1 : Int) = 1 ∧ ∃ (q9 v9 : Int), xFF (tX bf ln) b6 w6 l6 m6 n cu F = .inr (q9, xUp F ((n * 6) + w6) v9) ∧ cu < q9 ∧ RDX (tX bf ln) q9 (I_14 1) (I_14 2) (I_14 3) (I_14 4) (I_14 5) (L_15 1) ∧ (l6 ≤ v9 ∧ v9 ≤ m6) ∧ f_25 = upd f (iZ ((n * 6) + w6)).toNatClampNeg (iZ v9) ∧ (I_14 6) = fk ∧ (I_14 7) = fp) ∨ ((1 : Int) = 0 ∧ xFF (tX bf ln) b6 w6 l6 m6 n cu F = .inl ((I_14 6), (I_14 7))) from (Or.inl ⟨rfl, cut_21, (I_14 0), (xBn_r st_10).trans ((xBn_r st_21).trans (rfl)), by omega, xt_21, ⟨by omega, by omega⟩, hf_25, by omega, by omega⟩))⟩ (hP.sub [0, 5, 6, 7, 1, 2, 3, 4] rfl) (hD.sub [0, 5, 6, 7, 1, 2, 3, 4] rfl rfl) dX6_readFact_58
    ·
      rw [qt_21]
      refine lv_istore (lv' := [(5, .int (iZ (-1))), (0, .ref hq), (1, .int (iZ b6)), (2, .int (iZ w6)), (3, .int (iZ l6)), (4, .int (iZ m6))]) hx hb dX6_readFact_23 hl (by decide) rfl (fun ls hl => ?_)
      refine lv_aload_n hx hb dX6_readFact_25 rfl (lv_at hl 1 rfl) ?_
      refine va_get (D := D) (ci := 6) (v := .ref hs) (C := RX6) (T := TX6) (N := 3) hx hb hts iX6 hown hK hP 0 rfl rfl 1 (by decide) (hts _ qf_X6_15) (fun _ h => h) rfl dX6_readFact_26 ?_
      refine va_get (D := D) (ci := 5) (v := .ref hf) (C := RX5) (T := TX5) (N := 7) hx hb hts iX5 hown hK hP 1 rfl rfl 1 (by decide) (hts _ qf_X6_92) (fun _ h => h) rfl dX6_readFact_29 ?_
      refine lv_aload_n hx hb dX6_readFact_32 rfl (lv_at hl 1 rfl) ?_
      refine va_get (D := D) (ci := 6) (v := .ref hs) (C := RX6) (T := TX6) (N := 3) hx hb hts iX6 hown hK hP 0 rfl rfl 1 (by decide) (hts _ qf_X6_15) (fun _ h => h) rfl dX6_readFact_33 ?_
      refine va_get (D := D) (ci := 5) (v := .int (iZ n)) (C := RX5) (T := TX5) (N := 7) hx hb hts iX5 hown hK hP 1 rfl rfl 3 (by decide) (hts _ qf_X6_51) (fun _ h => h) rfl dX6_readFact_36 ?_
      refine lv_bipush (v := iZ 6) hx hb dX6_readFact_39 (by decide) ?_
      refine lv_imul hx hb dX6_readFact_41 ?_
      refine lv_topi (fun x_27 ex_27 => ?_)
      obtain rfl : x_27 = iZ (n * 6) := ex_27.trans (iZ_mul n 6)
      refine lv_iload_n hx hb dX6_readFact_42 rfl (lv_at hl 3 rfl) ?_
      refine lv_iadd hx hb dX6_readFact_43 ?_
      refine lv_topi (fun x_28 ex_28 => ?_)
      obtain rfl : x_28 = iZ ((n * 6) + w6) := ex_28.trans (iZ_add (n * 6) w6)
      refine lv_iload hx hb dX6_readFact_44 (lv_at hl 0 rfl) ?_
      refine va_iast hx hb hK hP hD hS 3 1 rfl rfl (zin (e := ((n * 6) + w6)) (n := 36) ⟨by omega, by omega⟩ (by decide)) dX6_readFact_46 (fun H locs hP hD hS => ?_)
      obtain ⟨f_29, hf_29⟩ : ∃ gg9, gg9 = upd f (iZ ((n * 6) + w6)).toNatClampNeg (iZ (-1)) := ⟨_, rfl⟩
      rw [← hf_29] at hP hD
      refine lv_iload hx hb dX6_readFact_47 (lv_at hl 0 rfl) ?_
      refine lv_iconst (v := iZ (-1)) hx hb dX6_readFact_49 (by decide) ?_
      refine lv_icmp_eq (tgt := 57) hx hb dX6_readFact_50 (by decide) (fun _ => ?_) (fun c => absurd (by decide) c)
      refine lv_iconst (v := iZ 0) hx hb dX6_readFact_57 (by decide) ?_
      exact EWz hx hb hr hlocks hS (fun i => [0, (I_14 1), (I_14 2), (I_14 3), (I_14 4), (I_14 5), (I_14 6), (I_14 7)].getD i 0, fun i => [0, (L_15 1)].getD i 0, fun i => [f_29].getD i (fun _ => 0), fun i => [].getD i (fun _ => 0)) rfl rfl ⟨(show (0 ≤ tp ∧ tp ≤ 900) ∧ (0 ≤ ln ∧ ln ≤ 900) ∧ (0 ≤ (I_14 1) ∧ (I_14 1) ≤ (I_14 2)) ∧ ((I_14 2) ≤ ln) ∧ (0 ≤ (I_14 3) ∧ (I_14 3) ≤ 4) ∧ (-2147483648 ≤ (I_14 4) ∧ (I_14 4) < 2147483648) ∧ (-1 ≤ (I_14 5) ∧ (I_14 5) ≤ 24) from ⟨⟨by omega, by omega⟩, ⟨by omega, by omega⟩, ⟨by omega, by omega⟩, by omega, ⟨by omega, by omega⟩, ⟨by omega, by omega⟩, by omega, by omega⟩), (show ((0 : Int) = 1 ∧ ∃ (q9 v9 : Int), xFF (tX bf ln) b6 w6 l6 m6 n cu F = .inr (q9, xUp F ((n * 6) + w6) v9) ∧ cu < q9 ∧ RDX (tX bf ln) q9 (I_14 1) (I_14 2) (I_14 3) (I_14 4) (I_14 5) (L_15 1) ∧ (l6 ≤ v9 ∧ v9 ≤ m6) ∧ f_29 = upd f (iZ ((n * 6) + w6)).toNatClampNeg (iZ v9) ∧ (I_14 6) = fk ∧ (I_14 7) = fp) ∨ ((0 : Int) = 0 ∧ xFF (tX bf ln) b6 w6 l6 m6 n cu F = .inl ((I_14 6), (I_14 7))) from (Or.inr ⟨rfl, (xBn_r st_10).trans (xBn_l st_21)⟩))⟩ (hP.sub [0, 5, 6, 7, 1, 2, 3, 4] rfl) (hD.sub [0, 5, 6, 7, 1, 2, 3, 4] rfl rfl) dX6_readFact_58
  ·
    rw [qt_10]
    refine lv_if_ne (tgt := 13) hx hb dX6_readFact_8 (by decide) (fun c => absurd (by decide) c) (fun _ => ?_)
    refine lv_iconst (v := iZ 0) hx hb dX6_readFact_11 (by decide) ?_
    exact EWz hx hb hr hlocks hS (fun i => [0, (I_3 1), (I_3 2), (I_3 3), (I_3 4), (I_3 5), (I_3 6), (I_3 7)].getD i 0, fun i => [0, (L_4 1)].getD i 0, fun i => [f].getD i (fun _ => 0), fun i => [].getD i (fun _ => 0)) rfl rfl ⟨(show (0 ≤ tp ∧ tp ≤ 900) ∧ (0 ≤ ln ∧ ln ≤ 900) ∧ (0 ≤ (I_3 1) ∧ (I_3 1) ≤ (I_3 2)) ∧ ((I_3 2) ≤ ln) ∧ (0 ≤ (I_3 3) ∧ (I_3 3) ≤ 4) ∧ (-2147483648 ≤ (I_3 4) ∧ (I_3 4) < 2147483648) ∧ (-1 ≤ (I_3 5) ∧ (I_3 5) ≤ 24) from ⟨⟨by omega, by omega⟩, ⟨by omega, by omega⟩, ⟨by omega, by omega⟩, by omega, ⟨by omega, by omega⟩, ⟨by omega, by omega⟩, by omega, by omega⟩), (show ((0 : Int) = 1 ∧ ∃ (q9 v9 : Int), xFF (tX bf ln) b6 w6 l6 m6 n cu F = .inr (q9, xUp F ((n * 6) + w6) v9) ∧ cu < q9 ∧ RDX (tX bf ln) q9 (I_3 1) (I_3 2) (I_3 3) (I_3 4) (I_3 5) (L_4 1) ∧ (l6 ≤ v9 ∧ v9 ≤ m6) ∧ f = upd f (iZ ((n * 6) + w6)).toNatClampNeg (iZ v9) ∧ (I_3 6) = fk ∧ (I_3 7) = fp) ∨ ((0 : Int) = 0 ∧ xFF (tX bf ln) b6 w6 l6 m6 n cu F = .inl ((I_3 6), (I_3 7))) from (Or.inr ⟨rfl, xBn_l st_10⟩))⟩ (hP.sub [0, 5, 6, 7, 1, 2, 3, 4] rfl) (hD.sub [0, 5, 6, 7, 1, 2, 3, 4] rfl rfl) dX6_readFact_12
