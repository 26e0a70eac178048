/-- n rocks told, the rest of the facts 0 -/
def SKZ (f : Nat → Int32) (n : Int) : Prop := FXI f n ∧ ∀ e : Int, n * 6 ≤ e → e < 36 → gz f e = 0
/-- n rocks told, of one more some facts; lo: the least of its ROUND -/
def SKR (f : Nat → Int32) (n lo : Int) : Prop := FXI f n ∧ ((0 ≤ gz f ((n * 6) + 0) ∧ gz f ((n * 6) + 0) ≤ 20) ∧ (lo ≤ gz f ((n * 6) + 1) ∧ gz f ((n * 6) + 1) ≤ 99) ∧ (0 ≤ gz f ((n * 6) + 2) ∧ gz f ((n * 6) + 2) ≤ 11) ∧ (0 ≤ gz f ((n * 6) + 3) ∧ gz f ((n * 6) + 3) ≤ 9) ∧ (0 ≤ gz f ((n * 6) + 4) ∧ gz f ((n * 6) + 4) ≤ 99) ∧ (0 ≤ gz f ((n * 6) + 5) ∧ gz f ((n * 6) + 5) ≤ 20)) ∧ ∀ e : Int, n * 6 + 6 ≤ e → e < 36 → gz f e = 0
theorem SKZ.skr {f : Nat → Int32} {n : Int} (h : SKZ f n) (hn : 0 ≤ n ∧ n < 6) : SKR f n 0 := by
  obtain ⟨h1, h2⟩ := h
  refine ⟨h1, ?_, fun e a b => h2 e (by omega) b⟩
  rw [h2 ((n * 6) + 0) (by omega) (by omega), h2 ((n * 6) + 1) (by omega) (by omega), h2 ((n * 6) + 2) (by omega) (by omega), h2 ((n * 6) + 3) (by omega) (by omega), h2 ((n * 6) + 4) (by omega) (by omega), h2 ((n * 6) + 5) (by omega) (by omega)]
  omega
theorem SKR.skz {f : Nat → Int32} {n : Int} (h : SKR f n 1) (hn : 0 ≤ n ∧ n < 6) : SKZ f (n + 1) := by
  obtain ⟨h1, h2, h3⟩ := h
  refine ⟨fun r a b => ?_, fun e a b => h3 e (by omega) b⟩
  rcases Int.lt_or_eq_of_le (show r ≤ n by omega) with h | h
  · exact h1 r a h
  · rw [h]; exact h2
theorem SKR.up {f g : Nat → Int32} {n lo l2 w v : Int} (h : SKR f n lo) (hg : g = upd f (iZ ((n * 6) + w)).toNatClampNeg (iZ v)) (hn : 0 ≤ n ∧ n < 6) (hw : (w = 0 ∧ 0 ≤ v ∧ v ≤ 20 ∧ l2 = lo) ∨ (w = 1 ∧ l2 ≤ v ∧ 0 ≤ l2 ∧ v ≤ 99) ∨ (w = 2 ∧ 0 ≤ v ∧ v ≤ 11 ∧ l2 = lo) ∨ (w = 3 ∧ 0 ≤ v ∧ v ≤ 9 ∧ l2 = lo) ∨ (w = 4 ∧ 0 ≤ v ∧ v ≤ 99 ∧ l2 = lo) ∨ (w = 5 ∧ 0 ≤ v ∧ v ≤ 20 ∧ l2 = lo)) : SKR g n l2 := by
  obtain ⟨h1, h2, h3⟩ := h
  have e : ∀ j : Int, 0 ≤ j → (j = (n * 6) + w ∧ gz g j = v) ∨ (¬ j = (n * 6) + w ∧ gz g j = gz f j) := fun j hj => by
    rw [gz_up hg ⟨by omega, by omega⟩ ⟨by omega, by omega⟩ hj]
    by_cases hh : j = (n * 6) + w
    · rw [if_pos hh]; exact Or.inl ⟨hh, rfl⟩
    · rw [if_neg hh]; exact Or.inr ⟨hh, rfl⟩
  refine ⟨fun r a b => ?_, ?_, fun j a b => ?_⟩
  · have := h1 r a b
    have e0 := e ((r * 6) + 0) (by omega)
    have e1 := e ((r * 6) + 1) (by omega)
    have e2 := e ((r * 6) + 2) (by omega)
    have e3 := e ((r * 6) + 3) (by omega)
    have e4 := e ((r * 6) + 4) (by omega)
    have e5 := e ((r * 6) + 5) (by omega)
    rw [show gz g ((r * 6) + 0) = gz f ((r * 6) + 0) by omega, show gz g ((r * 6) + 1) = gz f ((r * 6) + 1) by omega, show gz g ((r * 6) + 2) = gz f ((r * 6) + 2) by omega, show gz g ((r * 6) + 3) = gz f ((r * 6) + 3) by omega, show gz g ((r * 6) + 4) = gz f ((r * 6) + 4) by omega, show gz g ((r * 6) + 5) = gz f ((r * 6) + 5) by omega]
    exact this
  · have e0 := e ((n * 6) + 0) (by omega)
    have e1 := e ((n * 6) + 1) (by omega)
    have e2 := e ((n * 6) + 2) (by omega)
    have e3 := e ((n * 6) + 3) (by omega)
    have e4 := e ((n * 6) + 4) (by omega)
    have e5 := e ((n * 6) + 5) (by omega)
    refine ⟨?_, ?_, ?_, ?_, ?_, ?_⟩ <;> omega
  · have := h3 j a b
    have := e j (by omega)
    omega
set_option maxHeartbeats 4000000 in
set_option maxRecDepth 100000 in
theorem k_readFact (l : Launch) (D : va_G) (k : Nat → ClassId) (hq : Nat) (hr1 : Nat) (tx : Nat) (kw : Nat) (lt : Int) (tp : Int) (ln : Int) (pl : Int) (en : Int) (ki : Int) (va : Int) (ke : Int) (fk : Int) (fp : Int) (nm : Int64) (bf : Nat → Int32) (kwf : Nat → Int64) (hs : Nat) (hN : Nat) (hf : Nat) (hg : Nat) (n : Int) (ni : Int) (lw : Int) (we : Int) (nf : Nat → Int64) (f : Nat → Int32) (g : Nat → Int32) (b6 : Int) (w6 : Int) (l6 : Int) (m6 : Int) (hI1 : (0 ≤ tp ∧ tp ≤ 900) ∧ (0 ≤ ln ∧ ln ≤ 900) ∧ (0 ≤ pl ∧ pl ≤ en) ∧ (en ≤ ln) ∧ (0 ≤ ki ∧ ki ≤ 4) ∧ (-2147483648 ≤ va ∧ va < 2147483648) ∧ (-1 ≤ ke ∧ ke ≤ 24)) (hn : 0 ≤ n ∧ n < 6) (hb6 : -2147483648 ≤ b6 ∧ b6 < 2147483648) (hw6 : 0 ≤ w6 ∧ w6 ≤ 5) (hl6 : 0 ≤ l6 ∧ l6 ≤ 1000) (hm6 : 0 ≤ m6 ∧ m6 ≤ 1000) : WD (σ := ((Nat → Int) × (Nat → Int64) × (Nat → Nat → Int32) × (Nat → Nat → Int64))) l yX6_readFact cX6_readFact 6 (some .boolean) 3 0 0 D k [.ref hq, .int (iZ b6), .int (iZ w6), .int (iZ l6), .int (iZ m6)] [(hq, .inr (6, [.ref hr1, .ref hs, .int (iZ lt)])), (hr1, .inr (4, [.ref tx, .ref kw, .int (iZ tp), .int (iZ ln), .int (iZ pl), .int (iZ en), .int (iZ ki), .int (iZ va), .int (iZ ke), .long nm, .int (iZ fk), .int (iZ fp)])), (tx, .inl (k 0, 900, .inl bf)), (kw, .inl (k 2, 25, .inr (.inl kwf))), (hs, .inr (5, [.ref hN, .ref hf, .ref hg, .int (iZ n), .int (iZ ni), .int (iZ lw), .int (iZ we)])), (hN, .inl (k 2, 6, .inr (.inl nf))), (hf, .inl (k 1, 36, .inl f)), (hg, .inl (k 1, 32, .inl g))] (fun u => some (.int (iZ (u.1 0)))) (fun u => ((0 ≤ (u.1 1) ∧ (u.1 1) ≤ 900) ∧ (0 ≤ (u.1 2) ∧ (u.1 2) ≤ 900) ∧ (0 ≤ (u.1 3) ∧ (u.1 3) ≤ (u.1 4)) ∧ ((u.1 4) ≤ (u.1 2)) ∧ (0 ≤ (u.1 5) ∧ (u.1 5) ≤ 4) ∧ (-2147483648 ≤ (u.1 6) ∧ (u.1 6) < 2147483648) ∧ (-1 ≤ (u.1 7) ∧ (u.1 7) ≤ 24)) ∧ ((u.1 1) = tp) ∧ ((u.1 0) = 0 ∨ ((u.1 0) = 1 ∧ ∃ v6 : Int, l6 ≤ v6 ∧ v6 ≤ m6 ∧ (u.2.2.1 0) = upd f (iZ ((n * 6) + w6)).toNatClampNeg (iZ v6)))) (fun u => [(hq, .inr (6, [.ref hr1, .ref hs, .int (iZ lt)])), (hr1, .inr (4, [.ref tx, .ref kw, .int (iZ (u.1 1)), .int (iZ (u.1 2)), .int (iZ (u.1 3)), .int (iZ (u.1 4)), .int (iZ (u.1 5)), .int (iZ (u.1 6)), .int (iZ (u.1 7)), .long (u.2.1 1), .int (iZ (u.1 8)), .int (iZ (u.1 9))])), (tx, .inl (k 0, 900, .inl bf)), (kw, .inl (k 2, 25, .inr (.inl kwf))), (hs, .inr (5, [.ref hN, .ref hf, .ref hg, .int (iZ n), .int (iZ ni), .int (iZ lw), .int (iZ we)])), (hN, .inl (k 2, 6, .inr (.inl nf))), (hf, .inl (k 1, 36, .inl (u.2.2.1 0))), (hg, .inl (k 1, 32, .inl g))]) := by
  refine MW (by decide) (Nat.le_of_ble_eq_true rfl) (fun p e s m below meth c ls A hx hb hml hr hlocks hin hts hown hKK hP hD hS hA hl => ?_)
  have hK := hKK.1
  have hl : lv_has ls 6 [(0, .ref hq), (1, .int (iZ b6)), (2, .int (iZ w6)), (3, .int (iZ l6)), (4, .int (iZ m6))] := hl
  refine lv_aload_n hx hb dX6_readFact_0 rfl (lv_at hl 0 rfl) ?_
  refine va_get (D := D) (ci := 6) (v := .ref hr1) (C := RX6) (T := TX6) (N := 3) hx hb hts iX6 hown hK hP 0 rfl rfl 0 (by decide) (hts _ qf_X6_9) (fun _ h => h) rfl dX6_readFact_1 ?_
  refine lv_iload_n hx hb dX6_readFact_4 rfl (lv_at hl 1 rfl) ?_
  refine CWV (As := [.int (iZ b6)]) (rest := []) (wc := [(hr1, .inr (4, [.ref tx, .ref kw, .int (iZ tp), .int (iZ ln), .int (iZ pl), .int (iZ en), .int (iZ ki), .int (iZ va), .int (iZ ke), .long nm, .int (iZ fk), .int (iZ fp)])), (tx, .inl (k 0, 900, .inl bf)), (kw, .inl (k 2, 25, .inr (.inl kwf)))]) (wr := [(hq, .inr (6, [.ref hr1, .ref hs, .int (iZ lt)])), (hs, .inr (5, [.ref hN, .ref hf, .ref hg, .int (iZ n), .int (iZ ni), .int (iZ lw), .int (iZ we)])), (hN, .inl (k 2, 6, .inr (.inl nf))), (hf, .inl (k 1, 36, .inl f)), (hg, .inl (k 1, 32, .inl g))]) hx hb hml hown hts hKK hP hD hS hA (k_takeWord l D k hr1 tx kw bf kwf tp ln pl en ki va ke fk fp nm (show RDI _ from (show (0 ≤ tp ∧ tp ≤ 900) ∧ (0 ≤ ln ∧ ln ≤ 900) ∧ (0 ≤ pl ∧ pl ≤ en) ∧ (en ≤ ln) ∧ (0 ≤ ki ∧ ki ≤ 4) ∧ (-2147483648 ≤ va ∧ va < 2147483648) ∧ (-1 ≤ ke ∧ ke ≤ 24) from ⟨⟨by omega, by omega⟩, ⟨by omega, by omega⟩, ⟨by omega, by omega⟩, by omega, ⟨by omega, by omega⟩, ⟨by omega, by omega⟩, by omega, by omega⟩)) b6 ⟨by omega, by omega⟩) ci_X4_takeWord qm_X6_85 ⟨Nat.le_of_ble_eq_true rfl, Nat.le_of_ble_eq_true rfl⟩ ⟨Nat.le_of_ble_eq_true rfl, Nat.le_of_ble_eq_true rfl⟩ [1, 2, 3] [0, 4, 5, 6, 7] rfl rfl rfl rfl rfl (by decide) 0 rfl rfl rfl hl.1 rfl (Nat.le_of_ble_eq_true rfl) dX6_readFact_5 (fun u_1 H locs hφ hP hD hS => ?_)
  obtain ⟨I_2, nm_3⟩ := u_1
  obtain ⟨ah_4, b1h_4, b2h_4, b3h_4, b4h_4, b5h_4, b6h_4, b7h_4⟩ := hφ
  dsimp only at ah_4 b1h_4 b2h_4 b3h_4 b4h_4 b5h_4 b6h_4 b7h_4
  refine W.eq (g2 := F0 m 8 ls [.int (iZ (I_2 0))]) rfl ?_
  rcases (show ((I_2 0) = 0) ∨ ((I_2 0) = 1) from (by omega)) with s_5 | s_5
  ·
    rw [s_5]
    refine lv_if_ne (tgt := 13) hx hb dX6_readFact_8 (by decide) (fun c => absurd (by decide) c) (fun _ => ?_)
    refine lv_iconst (v := iZ 0) hx hb dX6_readFact_11 (by decide) ?_
    exact EWz hx hb hr hlocks hS (fun i => [0, (I_2 1), (I_2 2), (I_2 3), (I_2 4), (I_2 5), (I_2 6), (I_2 7), (I_2 8), (I_2 9)].getD i 0, fun i => [0, nm_3].getD i 0, fun i => [f].getD i (fun _ => 0), fun i => [].getD i (fun _ => 0)) rfl rfl ⟨(show (0 ≤ (I_2 1) ∧ (I_2 1) ≤ 900) ∧ (0 ≤ (I_2 2) ∧ (I_2 2) ≤ 900) ∧ (0 ≤ (I_2 3) ∧ (I_2 3) ≤ (I_2 4)) ∧ ((I_2 4) ≤ (I_2 2)) ∧ (0 ≤ (I_2 5) ∧ (I_2 5) ≤ 4) ∧ (-2147483648 ≤ (I_2 6) ∧ (I_2 6) < 2147483648) ∧ (-1 ≤ (I_2 7) ∧ (I_2 7) ≤ 24) from (by first | with_reducible assumption | exact ⟨⟨by omega, by omega⟩, ⟨by omega, by omega⟩, ⟨by omega, by omega⟩, by omega, ⟨by omega, by omega⟩, ⟨by omega, by omega⟩, by omega, by omega⟩)), (show (I_2 1) = tp from (by omega)), (show 0 = 0 ∨ (0 = 1 ∧ ∃ v6 : Int, l6 ≤ v6 ∧ v6 ≤ m6 ∧ f = upd f (iZ ((n * 6) + w6)).toNatClampNeg (iZ v6)) from (Or.inl rfl))⟩ (hP.sub [0, 5, 6, 7, 1, 2, 3, 4] rfl) (hD.sub [0, 5, 6, 7, 1, 2, 3, 4] rfl rfl) dX6_readFact_12
  ·
    rw [s_5]
    refine lv_if_ne (tgt := 13) hx hb dX6_readFact_8 (by decide) (fun _ => ?_) (fun c => absurd c (by decide))
    refine lv_aload_n hx hb dX6_readFact_13 rfl (lv_at hl 0 rfl) ?_
    refine va_get (D := D) (ci := 6) (v := .ref hr1) (C := RX6) (T := TX6) (N := 3) hx hb hts iX6 hown hK hP 0 rfl rfl 0 (by decide) (hts _ qf_X6_9) (fun _ h => h) rfl dX6_readFact_14 ?_
    refine lv_iload_n hx hb dX6_readFact_17 rfl (lv_at hl 3 rfl) ?_
    refine lv_iload hx hb dX6_readFact_18 (lv_at hl 4 rfl) ?_
    refine CWV (As := [.int (iZ l6), .int (iZ m6)]) (rest := []) (wc := [(hr1, .inr (4, [.ref tx, .ref kw, .int (iZ (I_2 1)), .int (iZ (I_2 2)), .int (iZ (I_2 3)), .int (iZ (I_2 4)), .int (iZ (I_2 5)), .int (iZ (I_2 6)), .int (iZ (I_2 7)), .long nm_3, .int (iZ (I_2 8)), .int (iZ (I_2 9))])), (tx, .inl (k 0, 900, .inl bf)), (kw, .inl (k 2, 25, .inr (.inl kwf)))]) (wr := [(hq, .inr (6, [.ref hr1, .ref hs, .int (iZ lt)])), (hs, .inr (5, [.ref hN, .ref hf, .ref hg, .int (iZ n), .int (iZ ni), .int (iZ lw), .int (iZ we)])), (hN, .inl (k 2, 6, .inr (.inl nf))), (hf, .inl (k 1, 36, .inl f)), (hg, .inl (k 1, 32, .inl g))]) hx hb hml hown hts hKK hP hD hS hA (k_takeNumber l D k hr1 tx kw bf kwf (I_2 1) (I_2 2) (I_2 3) (I_2 4) (I_2 5) (I_2 6) (I_2 7) (I_2 8) (I_2 9) nm_3 (show RDI _ from (show (0 ≤ (I_2 1) ∧ (I_2 1) ≤ 900) ∧ (0 ≤ (I_2 2) ∧ (I_2 2) ≤ 900) ∧ (0 ≤ (I_2 3) ∧ (I_2 3) ≤ (I_2 4)) ∧ ((I_2 4) ≤ (I_2 2)) ∧ (0 ≤ (I_2 5) ∧ (I_2 5) ≤ 4) ∧ (-2147483648 ≤ (I_2 6) ∧ (I_2 6) < 2147483648) ∧ (-1 ≤ (I_2 7) ∧ (I_2 7) ≤ 24) from ⟨⟨by omega, by omega⟩, ⟨by omega, by omega⟩, ⟨by omega, by omega⟩, by omega, ⟨by omega, by omega⟩, ⟨by omega, by omega⟩, by omega, by omega⟩)) l6 m6 ⟨by omega, by omega⟩ ⟨by omega, by omega⟩) ci_X4_takeNumber qm_X6_88 ⟨Nat.le_of_ble_eq_true rfl, Nat.le_of_ble_eq_true rfl⟩ ⟨Nat.le_of_ble_eq_true rfl, Nat.le_of_ble_eq_true rfl⟩ [5, 6, 7] [0, 1, 2, 3, 4] rfl rfl rfl rfl rfl (by decide) 0 rfl rfl rfl hl.1 rfl (Nat.le_of_ble_eq_true rfl) dX6_readFact_20 (fun u_8 H locs hφ hP hD hS => ?_)
    obtain ⟨I_9, nm_10⟩ := u_8
    obtain ⟨ah_11, b1h_11, b2h_11, b3h_11, b4h_11, b5h_11, b6h_11, b7h_11⟩ := hφ
    dsimp only at ah_11 b1h_11 b2h_11 b3h_11 b4h_11 b5h_11 b6h_11 b7h_11
    refine W.eq (g2 := F0 m 23 ls [.int (iZ (I_9 0))]) rfl ?_
    rcases (show ((I_9 0) = -1) ∨ (l6 ≤ (I_9 0) ∧ (I_9 0) ≤ m6) from (by omega)) with s_12 | s_12
    ·
      rw [s_12]
      refine lv_istore (lv' := [(5, .int (iZ (-1))), (0, .ref hq), (1, .int (iZ b6)), (2, .int (iZ w6)), (3, .int (iZ l6)), (4, .int (iZ m6))]) hx hb dX6_readFact_23 hl (by decide) rfl (fun ls hl => ?_)
      refine lv_aload_n hx hb dX6_readFact_25 rfl (lv_at hl 1 rfl) ?_
      refine va_get (D := D) (ci := 6) (v := .ref hs) (C := RX6) (T := TX6) (N := 3) hx hb hts iX6 hown hK hP 0 rfl rfl 1 (by decide) (hts _ qf_X6_15) (fun _ h => h) rfl dX6_readFact_26 ?_
      refine va_get (D := D) (ci := 5) (v := .ref hf) (C := RX5) (T := TX5) (N := 7) hx hb hts iX5 hown hK hP 1 rfl rfl 1 (by decide) (hts _ qf_X6_92) (fun _ h => h) rfl dX6_readFact_29 ?_
      refine lv_aload_n hx hb dX6_readFact_32 rfl (lv_at hl 1 rfl) ?_
      refine va_get (D := D) (ci := 6) (v := .ref hs) (C := RX6) (T := TX6) (N := 3) hx hb hts iX6 hown hK hP 0 rfl rfl 1 (by decide) (hts _ qf_X6_15) (fun _ h => h) rfl dX6_readFact_33 ?_
      refine va_get (D := D) (ci := 5) (v := .int (iZ n)) (C := RX5) (T := TX5) (N := 7) hx hb hts iX5 hown hK hP 1 rfl rfl 3 (by decide) (hts _ qf_X6_51) (fun _ h => h) rfl dX6_readFact_36 ?_
      refine lv_bipush (v := iZ 6) hx hb dX6_readFact_39 (by decide) ?_
      refine lv_imul hx hb dX6_readFact_41 ?_
      refine lv_topi (fun x_13 ex_13 => ?_)
      obtain rfl : x_13 = iZ (n * 6) := ex_13.trans (iZ_mul n 6)
      refine lv_iload_n hx hb dX6_readFact_42 rfl (lv_at hl 3 rfl) ?_
      refine lv_iadd hx hb dX6_readFact_43 ?_
      refine lv_topi (fun x_14 ex_14 => ?_)
      obtain rfl : x_14 = iZ ((n * 6) + w6) := ex_14.trans (iZ_add (n * 6) w6)
      refine lv_iload hx hb dX6_readFact_44 (lv_at hl 0 rfl) ?_
      refine va_iast hx hb hK hP hD hS 3 1 rfl rfl (zin (e := ((n * 6) + w6)) (n := 36) ⟨by omega, by omega⟩ (by decide)) dX6_readFact_46 (fun H locs hP hD hS => ?_)
      obtain ⟨f_15, hf_15⟩ : ∃ gg9, gg9 = upd f (iZ ((n * 6) + w6)).toNatClampNeg (iZ (-1)) := ⟨_, rfl⟩
      rw [← hf_15] at hP hD
      refine lv_iload hx hb dX6_readFact_47 (lv_at hl 0 rfl) ?_
      refine lv_iconst (v := iZ (-1)) hx hb dX6_readFact_49 (by decide) ?_
      refine lv_icmp_eq (tgt := 57) hx hb dX6_readFact_50 (by decide) (fun _ => ?_) (fun c => absurd (by decide) c)
      refine lv_iconst (v := iZ 0) hx hb dX6_readFact_57 (by decide) ?_
      exact EWz hx hb hr hlocks hS (fun i => [0, (I_9 1), (I_9 2), (I_9 3), (I_9 4), (I_9 5), (I_9 6), (I_9 7), (I_9 8), (I_9 9)].getD i 0, fun i => [0, nm_10].getD i 0, fun i => [f_15].getD i (fun _ => 0), fun i => [].getD i (fun _ => 0)) rfl rfl ⟨(show (0 ≤ (I_9 1) ∧ (I_9 1) ≤ 900) ∧ (0 ≤ (I_9 2) ∧ (I_9 2) ≤ 900) ∧ (0 ≤ (I_9 3) ∧ (I_9 3) ≤ (I_9 4)) ∧ ((I_9 4) ≤ (I_9 2)) ∧ (0 ≤ (I_9 5) ∧ (I_9 5) ≤ 4) ∧ (-2147483648 ≤ (I_9 6) ∧ (I_9 6) < 2147483648) ∧ (-1 ≤ (I_9 7) ∧ (I_9 7) ≤ 24) from (by first | with_reducible assumption | exact ⟨⟨by omega, by omega⟩, ⟨by omega, by omega⟩, ⟨by omega, by omega⟩, by omega, ⟨by omega, by omega⟩, ⟨by omega, by omega⟩, by omega, by omega⟩)), (show (I_9 1) = tp from (by omega)), (show 0 = 0 ∨ (0 = 1 ∧ ∃ v6 : Int, l6 ≤ v6 ∧ v6 ≤ m6 ∧ f_15 = upd f (iZ ((n * 6) + w6)).toNatClampNeg (iZ v6)) from (Or.inl rfl))⟩ (hP.sub [0, 5, 6, 7, 1, 2, 3, 4] rfl) (hD.sub [0, 5, 6, 7, 1, 2, 3, 4] rfl rfl) dX6_readFact_58
    ·
      refine lv_istore (lv' := [(5, .int (iZ (I_9 0))), (0, .ref hq), (1, .int (iZ b6)), (2, .int (iZ w6)), (3, .int (iZ l6)), (4, .int (iZ m6))]) hx hb dX6_readFact_23 hl (by decide) rfl (fun ls hl => ?_)
      refine lv_aload_n hx hb dX6_readFact_25 rfl (lv_at hl 1 rfl) ?_
      refine va_get (D := D) (ci := 6) (v := .ref hs) (C := RX6) (T := TX6) (N := 3) hx hb hts iX6 hown hK hP 0 rfl rfl 1 (by decide) (hts _ qf_X6_15) (fun _ h => h) rfl dX6_readFact_26 ?_
      refine va_get (D := D) (ci := 5) (v := .ref hf) (C := RX5) (T := TX5) (N := 7) hx hb hts iX5 hown hK hP 1 rfl rfl 1 (by decide) (hts _ qf_X6_92) (fun _ h => h) rfl dX6_readFact_29 ?_
      refine lv_aload_n hx hb dX6_readFact_32 rfl (lv_at hl 1 rfl) ?_
      refine va_get (D := D) (ci := 6) (v := .ref hs) (C := RX6) (T := TX6) (N := 3) hx hb hts iX6 hown hK hP 0 rfl rfl 1 (by decide) (hts _ qf_X6_15) (fun _ h => h) rfl dX6_readFact_33 ?_
      refine va_get (D := D) (ci := 5) (v := .int (iZ n)) (C := RX5) (T := TX5) (N := 7) hx hb hts iX5 hown hK hP 1 rfl rfl 3 (by decide) (hts _ qf_X6_51) (fun _ h => h) rfl dX6_readFact_36 ?_
      refine lv_bipush (v := iZ 6) hx hb dX6_readFact_39 (by decide) ?_
      refine lv_imul hx hb dX6_readFact_41 ?_
      refine lv_topi (fun x_17 ex_17 => ?_)
      obtain rfl : x_17 = iZ (n * 6) := ex_17.trans (iZ_mul n 6)
      refine lv_iload_n hx hb dX6_readFact_42 rfl (lv_at hl 3 rfl) ?_
      refine lv_iadd hx hb dX6_readFact_43 ?_
      refine lv_topi (fun x_18 ex_18 => ?_)
      obtain rfl : x_18 = iZ ((n * 6) + w6) := ex_18.trans (iZ_add (n * 6) w6)
      refine lv_iload hx hb dX6_readFact_44 (lv_at hl 0 rfl) ?_
      refine va_iast hx hb hK hP hD hS 3 1 rfl rfl (zin (e := ((n * 6) + w6)) (n := 36) ⟨by omega, by omega⟩ (by decide)) dX6_readFact_46 (fun H locs hP hD hS => ?_)
      obtain ⟨f_19, hf_19⟩ : ∃ gg9, gg9 = upd f (iZ ((n * 6) + w6)).toNatClampNeg (iZ (I_9 0)) := ⟨_, rfl⟩
      rw [← hf_19] at hP hD
      refine lv_iload hx hb dX6_readFact_47 (lv_at hl 0 rfl) ?_
      refine lv_iconst (v := iZ (-1)) hx hb dX6_readFact_49 (by decide) ?_
      refine lv_icmp_eq (tgt := 57) hx hb dX6_readFact_50 (by decide) (fun c_20 => ?_) (fun c_20 => ?_)
      ·
        have c_20 := (zeq (x := iZ (I_9 0)) (y := iZ (-1)) rfl rfl ⟨by omega, by omega⟩ ⟨by omega, by omega⟩).mp c_20
        exact absurd c_20 (by omega)
      ·
        have c_20 := mt (zeq (x := iZ (I_9 0)) (y := iZ (-1)) rfl rfl ⟨by omega, by omega⟩ ⟨by omega, by omega⟩).mpr c_20
        refine lv_iconst (v := iZ 1) hx hb dX6_readFact_53 (by decide) ?_
        refine lv_goto (tgt := 58) hx hb dX6_readFact_54 (by decide) ?_
        exact EWz hx hb hr hlocks hS (fun i => [1, (I_9 1), (I_9 2), (I_9 3), (I_9 4), (I_9 5), (I_9 6), (I_9 7), (I_9 8), (I_9 9)].getD i 0, fun i => [0, nm_10].getD i 0, fun i => [f_19].getD i (fun _ => 0), fun i => [].getD i (fun _ => 0)) rfl rfl ⟨(show (0 ≤ (I_9 1) ∧ (I_9 1) ≤ 900) ∧ (0 ≤ (I_9 2) ∧ (I_9 2) ≤ 900) ∧ (0 ≤ (I_9 3) ∧ (I_9 3) ≤ (I_9 4)) ∧ ((I_9 4) ≤ (I_9 2)) ∧ (0 ≤ (I_9 5) ∧ (I_9 5) ≤ 4) ∧ (-2147483648 ≤ (I_9 6) ∧ (I_9 6) < 2147483648) ∧ (-1 ≤ (I_9 7) ∧ (I_9 7) ≤ 24) from (by first | with_reducible assumption | exact ⟨⟨by omega, by omega⟩, ⟨by omega, by omega⟩, ⟨by omega, by omega⟩, by omega, ⟨by omega, by omega⟩, ⟨by omega, by omega⟩, by omega, by omega⟩)), (show (I_9 1) = tp from (by omega)), (show 1 = 0 ∨ (1 = 1 ∧ ∃ v6 : Int, l6 ≤ v6 ∧ v6 ≤ m6 ∧ f_19 = upd f (iZ ((n * 6) + w6)).toNatClampNeg (iZ v6)) from (Or.inr ⟨rfl, (I_9 0), by omega, by omega, hf_19⟩))⟩ (hP.sub [0, 5, 6, 7, 1, 2, 3, 4] rfl) (hD.sub [0, 5, 6, 7, 1, 2, 3, 4] rfl rfl) dX6_readFact_58
set_option maxHeartbeats 4000000 in
set_option maxRecDepth 100000 in
theorem k_readNewName (l : Launch) (D : va_G) (k : Nat → ClassId) (hq : Nat) (hr1 : Nat) (tx : Nat) (kw : Nat) (lt : Int) (tp : Int) (ln : Int) (pl : Int) (en : Int) (ki : Int) (va : Int) (ke : Int) (fk : Int) (fp : Int) (nm : Int64) (bf : Nat → Int32) (kwf : Nat → Int64) (hs : Nat) (hN : Nat) (hf : Nat) (hg : Nat) (n : Int) (ni : Int) (lw : Int) (we : Int) (nf : Nat → Int64) (f : Nat → Int32) (g : Nat → Int32) (hI1 : (0 ≤ tp ∧ tp ≤ 900) ∧ (0 ≤ ln ∧ ln ≤ 900) ∧ (0 ≤ pl ∧ pl ≤ en) ∧ (en ≤ ln) ∧ (0 ≤ ki ∧ ki ≤ 4) ∧ (-2147483648 ≤ va ∧ va < 2147483648) ∧ (-1 ≤ ke ∧ ke ≤ 24)) (hn : 0 ≤ n ∧ n < 6) : WD (σ := ((Nat → Int) × (Nat → Int64) × (Nat → Nat → Int32) × (Nat → Nat → Int64))) l yX6_readNewName cX6_readNewName 2 (some .boolean) 3 0 0 D k [.ref hq, .int (iZ n)] [(hq, .inr (6, [.ref hr1, .ref hs, .int (iZ lt)])), (hr1, .inr (4, [.ref tx, .ref kw, .int (iZ tp), .int (iZ ln), .int (iZ pl), .int (iZ en), .int (iZ ki), .int (iZ va), .int (iZ ke), .long nm, .int (iZ fk), .int (iZ fp)])), (tx, .inl (k 0, 900, .inl bf)), (kw, .inl (k 2, 25, .inr (.inl kwf))), (hs, .inr (5, [.ref hN, .ref hf, .ref hg, .int (iZ n), .int (iZ ni), .int (iZ lw), .int (iZ we)])), (hN, .inl (k 2, 6, .inr (.inl nf))), (hf, .inl (k 1, 36, .inl f)), (hg, .inl (k 1, 32, .inl g))] (fun u => some (.int (iZ (u.1 0)))) (fun u => ((0 ≤ (u.1 1) ∧ (u.1 1) ≤ 900) ∧ (0 ≤ (u.1 2) ∧ (u.1 2) ≤ 900) ∧ (0 ≤ (u.1 3) ∧ (u.1 3) ≤ (u.1 4)) ∧ ((u.1 4) ≤ (u.1 2)) ∧ (0 ≤ (u.1 5) ∧ (u.1 5) ≤ 4) ∧ (-2147483648 ≤ (u.1 6) ∧ (u.1 6) < 2147483648) ∧ (-1 ≤ (u.1 7) ∧ (u.1 7) ≤ 24)) ∧ ((u.1 1) = tp) ∧ ((u.1 0) = 0 ∨ (u.1 0) = 1)) (fun u => [(hq, .inr (6, [.ref hr1, .ref hs, .int (iZ lt)])), (hr1, .inr (4, [.ref tx, .ref kw, .int (iZ (u.1 1)), .int (iZ (u.1 2)), .int (iZ (u.1 3)), .int (iZ (u.1 4)), .int (iZ (u.1 5)), .int (iZ (u.1 6)), .int (iZ (u.1 7)), .long (u.2.1 1), .int (iZ (u.1 8)), .int (iZ (u.1 9))])), (tx, .inl (k 0, 900, .inl bf)), (kw, .inl (k 2, 25, .inr (.inl kwf))), (hs, .inr (5, [.ref hN, .ref hf, .ref hg, .int (iZ n), .int (iZ ni), .int (iZ lw), .int (iZ we)])), (hN, .inl (k 2, 6, .inr (.inl (u.2.2.2 0)))), (hf, .inl (k 1, 36, .inl f)), (hg, .inl (k 1, 32, .inl g))]) := by
  refine MW (by decide) (Nat.le_of_ble_eq_true rfl) (fun p e s m below meth c ls A hx hb hml hr hlocks hin hts hown hKK hP hD hS hA hl => ?_)
  have hK := hKK.1
  have hl : lv_has ls 2 [(0, .ref hq), (1, .int (iZ n))] := hl
  refine lv_aload_n hx hb dX6_readNewName_0 rfl (lv_at hl 0 rfl) ?_
  refine va_get (D := D) (ci := 6) (v := .ref hr1) (C := RX6) (T := TX6) (N := 3) hx hb hts iX6 hown hK hP 0 rfl rfl 0 (by decide) (hts _ qf_X6_9) (fun _ h => h) rfl dX6_readNewName_1 ?_
  refine CPV (As := []) (rest := []) hx hb hml hown hts hKK (hP.sub (ws' := [(hr1, .inr (4, [.ref tx, .ref kw, .int (iZ tp), .int (iZ ln), .int (iZ pl), .int (iZ en), .int (iZ ki), .int (iZ va), .int (iZ ke), .long nm, .int (iZ fk), .int (iZ fp)]))]) [1] rfl) (k_isName l D k hr1 [.ref tx, .ref kw, .int (iZ tp), .int (iZ ln), .int (iZ pl), .int (iZ en), .int (iZ ki), .int (iZ va), .int (iZ ke), .long nm, .int (iZ fk), .int (iZ fp)] ki ke nm rfl ⟨by omega, by omega⟩ rfl ⟨by omega, by omega⟩ rfl) ci_X4_isName qm_X6_70 ⟨Nat.le_of_ble_eq_true rfl, Nat.le_of_ble_eq_true rfl⟩ ⟨Nat.le_of_ble_eq_true rfl, Nat.le_of_ble_eq_true rfl⟩ 0 rfl rfl rfl hl.1 rfl (Nat.le_of_ble_eq_true rfl) dX6_readNewName_4 (fun z_1 hz_1 => ?_)
  refine lv_if_ne (tgt := 19) hx hb dX6_readNewName_7 (by decide) (fun c_2 => ?_) (fun c_2 => ?_)
  ·
    have c_2 := mt (zeq (x := iZ z_1) (y := iZ 0) rfl rfl ⟨by omega, by omega⟩ ⟨by omega, by omega⟩).mpr c_2
    refine lv_aload_n hx hb dX6_readNewName_19 rfl (lv_at hl 0 rfl) ?_
    refine va_get (D := D) (ci := 6) (v := .ref hs) (C := RX6) (T := TX6) (N := 3) hx hb hts iX6 hown hK hP 0 rfl rfl 1 (by decide) (hts _ qf_X6_15) (fun _ h => h) rfl dX6_readNewName_20 ?_
    refine lv_aload_n hx hb dX6_readNewName_23 rfl (lv_at hl 0 rfl) ?_
    refine va_get (D := D) (ci := 6) (v := .ref hr1) (C := RX6) (T := TX6) (N := 3) hx hb hts iX6 hown hK hP 0 rfl rfl 0 (by decide) (hts _ qf_X6_9) (fun _ h => h) rfl dX6_readNewName_24 ?_
    refine va_get (D := D) (ci := 4) (v := .long nm) (C := RX4) (T := TX4) (N := 12) hx hb hts iX4 hown hK hP 1 rfl rfl 9 (by decide) (hts _ qf_X6_73) (fun _ h => h) rfl dX6_readNewName_27 ?_
    refine CPV (As := [.long nm]) (rest := []) hx hb hml hown hts hKK (hP.sub (ws' := [(hs, .inr (5, [.ref hN, .ref hf, .ref hg, .int (iZ n), .int (iZ ni), .int (iZ lw), .int (iZ we)])), (hN, .inl (k 2, 6, .inr (.inl nf)))]) [4, 5] rfl) (k_named l D k hs hN [.ref hN, .ref hf, .ref hg, .int (iZ n), .int (iZ ni), .int (iZ lw), .int (iZ we)] rfl nf n rfl ⟨by omega, by omega⟩ nm) ci_X5_named qm_X6_77 ⟨Nat.le_of_ble_eq_true rfl, Nat.le_of_ble_eq_true rfl⟩ ⟨Nat.le_of_ble_eq_true rfl, Nat.le_of_ble_eq_true rfl⟩ 0 rfl rfl rfl hl.1 rfl (Nat.le_of_ble_eq_true rfl) dX6_readNewName_30 (fun z_3 hz_3 => ?_)
    have hm_z_3 := nm_rg hz_3
    refine lv_iconst (v := iZ (-1)) hx hb dX6_readNewName_33 (by decide) ?_
    refine lv_icmp_eq (tgt := 46) hx hb dX6_readNewName_34 (by decide) (fun c_4 => ?_) (fun c_4 => ?_)
    ·
      have c_4 := (zeq (x := iZ z_3) (y := iZ (-1)) rfl rfl ⟨by omega, by omega⟩ ⟨by omega, by omega⟩).mp c_4
      refine lv_aload_n hx hb dX6_readNewName_46 rfl (lv_at hl 0 rfl) ?_
      refine va_get (D := D) (ci := 6) (v := .ref hs) (C := RX6) (T := TX6) (N := 3) hx hb hts iX6 hown hK hP 0 rfl rfl 1 (by decide) (hts _ qf_X6_15) (fun _ h => h) rfl dX6_readNewName_47 ?_
      refine va_get (D := D) (ci := 5) (v := .ref hN) (C := RX5) (T := TX5) (N := 7) hx hb hts iX5 hown hK hP 4 rfl rfl 0 (by decide) (hts _ qf_X6_81) (fun _ h => h) rfl dX6_readNewName_50 ?_
      refine lv_iload_n hx hb dX6_readNewName_53 rfl (lv_at hl 1 rfl) ?_
      refine lv_aload_n hx hb dX6_readNewName_54 rfl (lv_at hl 0 rfl) ?_
      refine va_get (D := D) (ci := 6) (v := .ref hr1) (C := RX6) (T := TX6) (N := 3) hx hb hts iX6 hown hK hP 0 rfl rfl 0 (by decide) (hts _ qf_X6_9) (fun _ h => h) rfl dX6_readNewName_55 ?_
      refine va_get (D := D) (ci := 4) (v := .long nm) (C := RX4) (T := TX4) (N := 12) hx hb hts iX4 hown hK hP 1 rfl rfl 9 (by decide) (hts _ qf_X6_73) (fun _ h => h) rfl dX6_readNewName_58 ?_
      refine va_last hx hb hK hP hD hS 5 2 rfl rfl (zin (e := n) (n := 6) ⟨by omega, by omega⟩ (by decide)) dX6_readNewName_61 (fun H locs hP hD hS => ?_)
      obtain ⟨f_5, hf_5⟩ : ∃ gg9, gg9 = vp_updL nf (iZ n).toNatClampNeg nm := ⟨_, rfl⟩
      rw [← hf_5] at hP hD
      refine lv_aload_n hx hb dX6_readNewName_62 rfl (lv_at hl 0 rfl) ?_
      refine va_get (D := D) (ci := 6) (v := .ref hr1) (C := RX6) (T := TX6) (N := 3) hx hb hts iX6 hown hK hP 0 rfl rfl 0 (by decide) (hts _ qf_X6_9) (fun _ h => h) rfl dX6_readNewName_63 ?_
      refine CWV (As := []) (rest := []) (wc := [(hr1, .inr (4, [.ref tx, .ref kw, .int (iZ tp), .int (iZ ln), .int (iZ pl), .int (iZ en), .int (iZ ki), .int (iZ va), .int (iZ ke), .long nm, .int (iZ fk), .int (iZ fp)])), (tx, .inl (k 0, 900, .inl bf)), (kw, .inl (k 2, 25, .inr (.inl kwf)))]) (wr := [(hq, .inr (6, [.ref hr1, .ref hs, .int (iZ lt)])), (hs, .inr (5, [.ref hN, .ref hf, .ref hg, .int (iZ n), .int (iZ ni), .int (iZ lw), .int (iZ we)])), (hN, .inl (k 2, 6, .inr (.inl f_5))), (hf, .inl (k 1, 36, .inl f)), (hg, .inl (k 1, 32, .inl g))]) hx hb hml hown hts hKK hP hD hS hA (k_next l D k hr1 tx kw bf kwf tp ln pl en ki va ke fk fp nm (show RDI _ from (show (0 ≤ tp ∧ tp ≤ 900) ∧ (0 ≤ ln ∧ ln ≤ 900) ∧ (0 ≤ en ∧ en ≤ en) ∧ (en ≤ ln) ∧ (0 ≤ ki ∧ ki ≤ 4) ∧ (-2147483648 ≤ (0 : Int) ∧ (0 : Int) < 2147483648) ∧ (-1 ≤ (-1 : Int) ∧ (-1 : Int) ≤ 24) from ⟨⟨by omega, by omega⟩, ⟨by omega, by omega⟩, ⟨by omega, by omega⟩, by omega, ⟨by omega, by omega⟩, ⟨by omega, by omega⟩, by omega, by omega⟩))) ci_X4_next qm_X6_54 ⟨Nat.le_of_ble_eq_true rfl, Nat.le_of_ble_eq_true rfl⟩ ⟨Nat.le_of_ble_eq_true rfl, Nat.le_of_ble_eq_true rfl⟩ [1, 2, 3] [0, 4, 5, 6, 7] rfl rfl rfl rfl rfl (by decide) 0 rfl rfl rfl hl.1 rfl (Nat.le_of_ble_eq_true rfl) dX6_readNewName_66 (fun u_6 H locs hφ hP hD hS => ?_)
      obtain ⟨I_7, nm_8⟩ := u_6
      obtain ⟨ah_9, b1h_9, b2h_9, b3h_9, b4h_9, b5h_9, b6h_9, b7h_9⟩ := hφ
      dsimp only at ah_9 b1h_9 b2h_9 b3h_9 b4h_9 b5h_9 b6h_9 b7h_9
      refine W.eq (g2 := F0 m 69 ls []) rfl ?_
      refine lv_iconst (v := iZ 1) hx hb dX6_readNewName_69 (by decide) ?_
      exact EWz hx hb hr hlocks hS (fun i => [1, (I_7 1), (I_7 2), (I_7 3), (I_7 4), (I_7 5), (I_7 6), (I_7 7), (I_7 8), (I_7 9)].getD i 0, fun i => [0, nm_8].getD i 0, fun i => [].getD i (fun _ => 0), fun i => [f_5].getD i (fun _ => 0)) rfl rfl ⟨(show (0 ≤ (I_7 1) ∧ (I_7 1) ≤ 900) ∧ (0 ≤ (I_7 2) ∧ (I_7 2) ≤ 900) ∧ (0 ≤ (I_7 3) ∧ (I_7 3) ≤ (I_7 4)) ∧ ((I_7 4) ≤ (I_7 2)) ∧ (0 ≤ (I_7 5) ∧ (I_7 5) ≤ 4) ∧ (-2147483648 ≤ (I_7 6) ∧ (I_7 6) < 2147483648) ∧ (-1 ≤ (I_7 7) ∧ (I_7 7) ≤ 24) from (by first | with_reducible assumption | exact ⟨⟨by omega, by omega⟩, ⟨by omega, by omega⟩, ⟨by omega, by omega⟩, by omega, ⟨by omega, by omega⟩, ⟨by omega, by omega⟩, by omega, by omega⟩)), (show (I_7 1) = tp from (by omega)), (show 1 = 0 ∨ 1 = 1 from (by omega))⟩ (hP.sub [0, 5, 6, 7, 1, 2, 3, 4] rfl) (hD.sub [0, 5, 6, 7, 1, 2, 3, 4] rfl rfl) dX6_readNewName_70
    ·
      have c_4 := mt (zeq (x := iZ z_3) (y := iZ (-1)) rfl rfl ⟨by omega, by omega⟩ ⟨by omega, by omega⟩).mpr c_4
      refine lv_aload_n hx hb dX6_readNewName_37 rfl (lv_at hl 0 rfl) ?_
      refine va_get (D := D) (ci := 6) (v := .ref hr1) (C := RX6) (T := TX6) (N := 3) hx hb hts iX6 hown hK hP 0 rfl rfl 0 (by decide) (hts _ qf_X6_9) (fun _ h => h) rfl dX6_readNewName_38 ?_
      refine lv_iconst (v := iZ 3) hx hb dX6_readNewName_41 (by decide) ?_
      refine CWV (As := [.int (iZ 3)]) (rest := []) (wc := [(hr1, .inr (4, [.ref tx, .ref kw, .int (iZ tp), .int (iZ ln), .int (iZ pl), .int (iZ en), .int (iZ ki), .int (iZ va), .int (iZ ke), .long nm, .int (iZ fk), .int (iZ fp)])), (tx, .inl (k 0, 900, .inl bf)), (kw, .inl (k 2, 25, .inr (.inl kwf)))]) (wr := [(hq, .inr (6, [.ref hr1, .ref hs, .int (iZ lt)])), (hs, .inr (5, [.ref hN, .ref hf, .ref hg, .int (iZ n), .int (iZ ni), .int (iZ lw), .int (iZ we)])), (hN, .inl (k 2, 6, .inr (.inl nf))), (hf, .inl (k 1, 36, .inl f)), (hg, .inl (k 1, 32, .inl g))]) hx hb hml hown hts hKK hP hD hS hA (k_fail l D k hr1 tx kw bf kwf tp ln pl en ki va ke fk fp nm (show RDI _ from (show (0 ≤ tp ∧ tp ≤ 900) ∧ (0 ≤ ln ∧ ln ≤ 900) ∧ (0 ≤ pl ∧ pl ≤ en) ∧ (en ≤ ln) ∧ (0 ≤ ki ∧ ki ≤ 4) ∧ (-2147483648 ≤ va ∧ va < 2147483648) ∧ (-1 ≤ ke ∧ ke ≤ 24) from ⟨⟨by omega, by omega⟩, ⟨by omega, by omega⟩, ⟨by omega, by omega⟩, by omega, ⟨by omega, by omega⟩, ⟨by omega, by omega⟩, by omega, by omega⟩)) 3 ) ci_X4_fail qm_X6_47 ⟨Nat.le_of_ble_eq_true rfl, Nat.le_of_ble_eq_true rfl⟩ ⟨Nat.le_of_ble_eq_true rfl, Nat.le_of_ble_eq_true rfl⟩ [1, 2, 3] [0, 4, 5, 6, 7] rfl rfl rfl rfl rfl (by decide) 0 rfl rfl rfl hl.1 rfl (Nat.le_of_ble_eq_true rfl) dX6_readNewName_42 (fun u_10 H locs hφ hP hD hS => ?_)
      obtain ⟨I_11, nm_12⟩ := u_10
      obtain ⟨ah_13, b1h_13, b2h_13, b3h_13, b4h_13, b5h_13, b6h_13, b7h_13⟩ := hφ
      dsimp only at ah_13 b1h_13 b2h_13 b3h_13 b4h_13 b5h_13 b6h_13 b7h_13
      refine W.eq (g2 := F0 m 45 ls [.int (iZ (I_11 0))]) rfl ?_
      have s_14 : (I_11 0) = 0 := (by omega)
      rw [s_14]
      exact EWz hx hb hr hlocks hS (fun i => [0, (I_11 1), (I_11 2), (I_11 3), (I_11 4), (I_11 5), (I_11 6), (I_11 7), (I_11 8), (I_11 9)].getD i 0, fun i => [0, nm_12].getD i 0, fun i => [].getD i (fun _ => 0), fun i => [nf].getD i (fun _ => 0)) rfl rfl ⟨(show (0 ≤ (I_11 1) ∧ (I_11 1) ≤ 900) ∧ (0 ≤ (I_11 2) ∧ (I_11 2) ≤ 900) ∧ (0 ≤ (I_11 3) ∧ (I_11 3) ≤ (I_11 4)) ∧ ((I_11 4) ≤ (I_11 2)) ∧ (0 ≤ (I_11 5) ∧ (I_11 5) ≤ 4) ∧ (-2147483648 ≤ (I_11 6) ∧ (I_11 6) < 2147483648) ∧ (-1 ≤ (I_11 7) ∧ (I_11 7) ≤ 24) from (by first | with_reducible assumption | exact ⟨⟨by omega, by omega⟩, ⟨by omega, by omega⟩, ⟨by omega, by omega⟩, by omega, ⟨by omega, by omega⟩, ⟨by omega, by omega⟩, by omega, by omega⟩)), (show (I_11 1) = tp from (by omega)), (show 0 = 0 ∨ 0 = 1 from (by omega))⟩ (hP.sub [0, 5, 6, 7, 1, 2, 3, 4] rfl) (hD.sub [0, 5, 6, 7, 1, 2, 3, 4] rfl rfl) dX6_readNewName_45
  ·
    have c_2 := (zeq (x := iZ z_1) (y := iZ 0) rfl rfl ⟨by omega, by omega⟩ ⟨by omega, by omega⟩).mp c_2
    refine lv_aload_n hx hb dX6_readNewName_10 rfl (lv_at hl 0 rfl) ?_
    refine va_get (D := D) (ci := 6) (v := .ref hr1) (C := RX6) (T := TX6) (N := 3) hx hb hts iX6 hown hK hP 0 rfl rfl 0 (by decide) (hts _ qf_X6_9) (fun _ h => h) rfl dX6_readNewName_11 ?_
    refine lv_iconst (v := iZ 2) hx hb dX6_readNewName_14 (by decide) ?_
    refine CWV (As := [.int (iZ 2)]) (rest := []) (wc := [(hr1, .inr (4, [.ref tx, .ref kw, .int (iZ tp), .int (iZ ln), .int (iZ pl), .int (iZ en), .int (iZ ki), .int (iZ va), .int (iZ ke), .long nm, .int (iZ fk), .int (iZ fp)])), (tx, .inl (k 0, 900, .inl bf)), (kw, .inl (k 2, 25, .inr (.inl kwf)))]) (wr := [(hq, .inr (6, [.ref hr1, .ref hs, .int (iZ lt)])), (hs, .inr (5, [.ref hN, .ref hf, .ref hg, .int (iZ n), .int (iZ ni), .int (iZ lw), .int (iZ we)])), (hN, .inl (k 2, 6, .inr (.inl nf))), (hf, .inl (k 1, 36, .inl f)), (hg, .inl (k 1, 32, .inl g))]) hx hb hml hown hts hKK hP hD hS hA (k_fail l D k hr1 tx kw bf kwf tp ln pl en ki va ke fk fp nm (show RDI _ from (show (0 ≤ tp ∧ tp ≤ 900) ∧ (0 ≤ ln ∧ ln ≤ 900) ∧ (0 ≤ pl ∧ pl ≤ en) ∧ (en ≤ ln) ∧ (0 ≤ ki ∧ ki ≤ 4) ∧ (-2147483648 ≤ va ∧ va < 2147483648) ∧ (-1 ≤ ke ∧ ke ≤ 24) from ⟨⟨by omega, by omega⟩, ⟨by omega, by omega⟩, ⟨by omega, by omega⟩, by omega, ⟨by omega, by omega⟩, ⟨by omega, by omega⟩, by omega, by omega⟩)) 2 ) ci_X4_fail qm_X6_47 ⟨Nat.le_of_ble_eq_true rfl, Nat.le_of_ble_eq_true rfl⟩ ⟨Nat.le_of_ble_eq_true rfl, Nat.le_of_ble_eq_true rfl⟩ [1, 2, 3] [0, 4, 5, 6, 7] rfl rfl rfl rfl rfl (by decide) 0 rfl rfl rfl hl.1 rfl (Nat.le_of_ble_eq_true rfl) dX6_readNewName_15 (fun u_15 H locs hφ hP hD hS => ?_)
    obtain ⟨I_16, nm_17⟩ := u_15
    obtain ⟨ah_18, b1h_18, b2h_18, b3h_18, b4h_18, b5h_18, b6h_18, b7h_18⟩ := hφ
    dsimp only at ah_18 b1h_18 b2h_18 b3h_18 b4h_18 b5h_18 b6h_18 b7h_18
    refine W.eq (g2 := F0 m 18 ls [.int (iZ (I_16 0))]) rfl ?_
    have s_19 : (I_16 0) = 0 := (by omega)
    rw [s_19]
    exact EWz hx hb hr hlocks hS (fun i => [0, (I_16 1), (I_16 2), (I_16 3), (I_16 4), (I_16 5), (I_16 6), (I_16 7), (I_16 8), (I_16 9)].getD i 0, fun i => [0, nm_17].getD i 0, fun i => [].getD i (fun _ => 0), fun i => [nf].getD i (fun _ => 0)) rfl rfl ⟨(show (0 ≤ (I_16 1) ∧ (I_16 1) ≤ 900) ∧ (0 ≤ (I_16 2) ∧ (I_16 2) ≤ 900) ∧ (0 ≤ (I_16 3) ∧ (I_16 3) ≤ (I_16 4)) ∧ ((I_16 4) ≤ (I_16 2)) ∧ (0 ≤ (I_16 5) ∧ (I_16 5) ≤ 4) ∧ (-2147483648 ≤ (I_16 6) ∧ (I_16 6) < 2147483648) ∧ (-1 ≤ (I_16 7) ∧ (I_16 7) ≤ 24) from (by first | with_reducible assumption | exact ⟨⟨by omega, by omega⟩, ⟨by omega, by omega⟩, ⟨by omega, by omega⟩, by omega, ⟨by omega, by omega⟩, ⟨by omega, by omega⟩, by omega, by omega⟩)), (show (I_16 1) = tp from (by omega)), (show 0 = 0 ∨ 0 = 1 from (by omega))⟩ (hP.sub [0, 5, 6, 7, 1, 2, 3, 4] rfl) (hD.sub [0, 5, 6, 7, 1, 2, 3, 4] rfl rfl) dX6_readNewName_18
set_option maxHeartbeats 4000000 in
set_option maxRecDepth 100000 in
theorem k_readRock (l : Launch) (D : va_G) (k : Nat → ClassId) (hq : Nat) (hr1 : Nat) (tx : Nat) (kw : Nat) (lt : Int) (tp : Int) (ln : Int) (pl : Int) (en : Int) (ki : Int) (va : Int) (ke : Int) (fk : Int) (fp : Int) (nm : Int64) (bf : Nat → Int32) (kwf : Nat → Int64) (hs : Nat) (hN : Nat) (hf : Nat) (hg : Nat) (n : Int) (ni : Int) (lw : Int) (we : Int) (nf : Nat → Int64) (f : Nat → Int32) (g : Nat → Int32) (hI1 : (0 ≤ tp ∧ tp ≤ 900) ∧ (0 ≤ ln ∧ ln ≤ 900) ∧ (0 ≤ pl ∧ pl ≤ en) ∧ (en ≤ ln) ∧ (0 ≤ ki ∧ ki ≤ 4) ∧ (-2147483648 ≤ va ∧ va < 2147483648) ∧ (-1 ≤ ke ∧ ke ≤ 24)) (hn : 0 ≤ n ∧ n ≤ 6) (hz : SKZ f n) (hwe : -2147483648 ≤ we ∧ we < 2147483648) : WD (σ := ((Nat → Int) × (Nat → Int64) × (Nat → Nat → Int32) × (Nat → Nat → Int64))) l yX6_readRock cX6_readRock 3 (some .boolean) 4 0 0 D k [.ref hq] [(hq, .inr (6, [.ref hr1, .ref hs, .int (iZ lt)])), (hr1, .inr (4, [.ref tx, .ref kw, .int (iZ tp), .int (iZ ln), .int (iZ pl), .int (iZ en), .int (iZ ki), .int (iZ va), .int (iZ ke), .long nm, .int (iZ fk), .int (iZ fp)])), (tx, .inl (k 0, 900, .inl bf)), (kw, .inl (k 2, 25, .inr (.inl kwf))), (hs, .inr (5, [.ref hN, .ref hf, .ref hg, .int (iZ n), .int (iZ ni), .int (iZ lw), .int (iZ we)])), (hN, .inl (k 2, 6, .inr (.inl nf))), (hf, .inl (k 1, 36, .inl f)), (hg, .inl (k 1, 32, .inl g))] (fun u => some (.int (iZ (u.1 0)))) (fun u => ((0 ≤ (u.1 1) ∧ (u.1 1) ≤ 900) ∧ (0 ≤ (u.1 2) ∧ (u.1 2) ≤ 900) ∧ (0 ≤ (u.1 3) ∧ (u.1 3) ≤ (u.1 4)) ∧ ((u.1 4) ≤ (u.1 2)) ∧ (0 ≤ (u.1 5) ∧ (u.1 5) ≤ 4) ∧ (-2147483648 ≤ (u.1 6) ∧ (u.1 6) < 2147483648) ∧ (-1 ≤ (u.1 7) ∧ (u.1 7) ≤ 24)) ∧ ((u.1 1) = tp) ∧ (-2147483648 ≤ (u.1 11) ∧ (u.1 11) < 2147483648) ∧ ((u.1 0) = 0 ∨ ((u.1 0) = 1 ∧ (0 ≤ (u.1 10) ∧ (u.1 10) ≤ 6) ∧ SKZ (u.2.2.1 0) (u.1 10)))) (fun u => [(hq, .inr (6, [.ref hr1, .ref hs, .int (iZ lt)])), (hr1, .inr (4, [.ref tx, .ref kw, .int (iZ (u.1 1)), .int (iZ (u.1 2)), .int (iZ (u.1 3)), .int (iZ (u.1 4)), .int (iZ (u.1 5)), .int (iZ (u.1 6)), .int (iZ (u.1 7)), .long (u.2.1 1), .int (iZ (u.1 8)), .int (iZ (u.1 9))])), (tx, .inl (k 0, 900, .inl bf)), (kw, .inl (k 2, 25, .inr (.inl kwf))), (hs, .inr (5, [.ref hN, .ref hf, .ref hg, .int (iZ (u.1 10)), .int (iZ ni), .int (iZ lw), .int (iZ (u.1 11))])), (hN, .inl (k 2, 6, .inr (.inl (u.2.2.2 0)))), (hf, .inl (k 1, 36, .inl (u.2.2.1 0))), (hg, .inl (k 1, 32, .inl g))]) := by
  refine MW (by decide) (Nat.le_of_ble_eq_true rfl) (fun p e s m below meth c ls A hx hb hml hr hlocks hin hts hown hKK hP hD hS hA hl => ?_)
  have hK := hKK.1
  have hl : lv_has ls 3 [(0, .ref hq)] := hl
  have sk0 : 0 ≤ n ∧ n < 6 → SKR f n 0 := fun h => SKZ.skr hz h
  refine lv_aload_n hx hb dX6_readRock_0 rfl (lv_at hl 0 rfl) ?_
  refine va_get (D := D) (ci := 6) (v := .ref hs) (C := RX6) (T := TX6) (N := 3) hx hb hts iX6 hown hK hP 0 rfl rfl 1 (by decide) (hts _ qf_X6_15) (fun _ h => h) rfl dX6_readRock_1 ?_
  refine va_get (D := D) (ci := 5) (v := .int (iZ n)) (C := RX5) (T := TX5) (N := 7) hx hb hts iX5 hown hK hP 4 rfl rfl 3 (by decide) (hts _ qf_X6_51) (fun _ h => h) rfl dX6_readRock_4 ?_
  refine lv_bipush (v := iZ 6) hx hb dX6_readRock_7 (by decide) ?_
  refine lv_icmp_lt (tgt := 22) hx hb dX6_readRock_9 (by decide) (fun c_1 => ?_) (fun c_1 => ?_)
  ·
    have c_1 := (zlt (x := iZ n) (y := iZ 6) rfl rfl ⟨by omega, by omega⟩ ⟨by omega, by omega⟩).mp c_1
    have sk1 := sk0 ⟨by omega, by omega⟩
    refine lv_aload_n hx hb dX6_readRock_22 rfl (lv_at hl 0 rfl) ?_
    refine va_get (D := D) (ci := 6) (v := .ref hr1) (C := RX6) (T := TX6) (N := 3) hx hb hts iX6 hown hK hP 0 rfl rfl 0 (by decide) (hts _ qf_X6_9) (fun _ h => h) rfl dX6_readRock_23 ?_
    refine CWV (As := []) (rest := []) (wc := [(hr1, .inr (4, [.ref tx, .ref kw, .int (iZ tp), .int (iZ ln), .int (iZ pl), .int (iZ en), .int (iZ ki), .int (iZ va), .int (iZ ke), .long nm, .int (iZ fk), .int (iZ fp)])), (tx, .inl (k 0, 900, .inl bf)), (kw, .inl (k 2, 25, .inr (.inl kwf)))]) (wr := [(hq, .inr (6, [.ref hr1, .ref hs, .int (iZ lt)])), (hs, .inr (5, [.ref hN, .ref hf, .ref hg, .int (iZ n), .int (iZ ni), .int (iZ lw), .int (iZ we)])), (hN, .inl (k 2, 6, .inr (.inl nf))), (hf, .inl (k 1, 36, .inl f)), (hg, .inl (k 1, 32, .inl g))]) hx hb hml hown hts hKK hP hD hS hA (k_next l D k hr1 tx kw bf kwf tp ln pl en ki va ke fk fp nm (show RDI _ from (show (0 ≤ tp ∧ tp ≤ 900) ∧ (0 ≤ ln ∧ ln ≤ 900) ∧ (0 ≤ en ∧ en ≤ en) ∧ (en ≤ ln) ∧ (0 ≤ ki ∧ ki ≤ 4) ∧ (-2147483648 ≤ (0 : Int) ∧ (0 : Int) < 2147483648) ∧ (-1 ≤ (-1 : Int) ∧ (-1 : Int) ≤ 24) from ⟨⟨by omega, by omega⟩, ⟨by omega, by omega⟩, ⟨by omega, by omega⟩, by omega, ⟨by omega, by omega⟩, ⟨by omega, by omega⟩, by omega, by omega⟩))) ci_X4_next qm_X6_54 ⟨Nat.le_of_ble_eq_true rfl, Nat.le_of_ble_eq_true rfl⟩ ⟨Nat.le_of_ble_eq_true rfl, Nat.le_of_ble_eq_true rfl⟩ [1, 2, 3] [0, 4, 5, 6, 7] rfl rfl rfl rfl rfl (by decide) 0 rfl rfl rfl hl.1 rfl (Nat.le_of_ble_eq_true rfl) dX6_readRock_26 (fun u_2 H locs hφ hP hD hS => ?_)
    obtain ⟨I_3, nm_4⟩ := u_2
    obtain ⟨ah_5, b1h_5, b2h_5, b3h_5, b4h_5, b5h_5, b6h_5, b7h_5⟩ := hφ
    dsimp only at ah_5 b1h_5 b2h_5 b3h_5 b4h_5 b5h_5 b6h_5 b7h_5
    refine W.eq (g2 := F0 m 29 ls []) rfl ?_
    refine lv_aload_n hx hb dX6_readRock_29 rfl (lv_at hl 0 rfl) ?_
    refine va_get (D := D) (ci := 6) (v := .ref hs) (C := RX6) (T := TX6) (N := 3) hx hb hts iX6 hown hK hP 0 rfl rfl 1 (by decide) (hts _ qf_X6_15) (fun _ h => h) rfl dX6_readRock_30 ?_
    refine va_get (D := D) (ci := 5) (v := .int (iZ n)) (C := RX5) (T := TX5) (N := 7) hx hb hts iX5 hown hK hP 1 rfl rfl 3 (by decide) (hts _ qf_X6_51) (fun _ h => h) rfl dX6_readRock_33 ?_
    refine lv_istore_n (lv' := [(1, .int (iZ n)), (0, .ref hq)]) hx hb dX6_readRock_36 rfl hl (by decide) rfl (fun ls hl => ?_)
    refine lv_aload_n hx hb dX6_readRock_37 rfl (lv_at hl 1 rfl) ?_
    refine lv_iload_n hx hb dX6_readRock_38 rfl (lv_at hl 0 rfl) ?_
    refine CWV (As := [.int (iZ n)]) (rest := []) (wc := [(hq, .inr (6, [.ref hr1, .ref hs, .int (iZ lt)])), (hr1, .inr (4, [.ref tx, .ref kw, .int (iZ (I_3 1)), .int (iZ (I_3 2)), .int (iZ (I_3 3)), .int (iZ (I_3 4)), .int (iZ (I_3 5)), .int (iZ (I_3 6)), .int (iZ (I_3 7)), .long nm_4, .int (iZ (I_3 8)), .int (iZ (I_3 9))])), (tx, .inl (k 0, 900, .inl bf)), (kw, .inl (k 2, 25, .inr (.inl kwf))), (hs, .inr (5, [.ref hN, .ref hf, .ref hg, .int (iZ n), .int (iZ ni), .int (iZ lw), .int (iZ we)])), (hN, .inl (k 2, 6, .inr (.inl nf))), (hf, .inl (k 1, 36, .inl f)), (hg, .inl (k 1, 32, .inl g))]) (wr := []) hx hb hml hown hts hKK hP hD hS hA (k_readNewName l D k hq hr1 tx kw lt (I_3 1) (I_3 2) (I_3 3) (I_3 4) (I_3 5) (I_3 6) (I_3 7) (I_3 8) (I_3 9) nm_4 bf kwf hs hN hf hg n ni lw we nf f g (by first | with_reducible assumption | exact ⟨⟨by omega, by omega⟩, ⟨by omega, by omega⟩, ⟨by omega, by omega⟩, by omega, ⟨by omega, by omega⟩, ⟨by omega, by omega⟩, by omega, by omega⟩) ⟨by omega, by omega⟩) ci_X6_readNewName qm_X6_57 ⟨Nat.le_of_ble_eq_true rfl, Nat.le_of_ble_eq_true rfl⟩ ⟨Nat.le_of_ble_eq_true rfl, Nat.le_of_ble_eq_true rfl⟩ [0, 5, 6, 7, 1, 2, 3, 4] [] rfl rfl rfl rfl rfl (by decide) 0 rfl rfl rfl hl.1 rfl (Nat.le_of_ble_eq_true rfl) dX6_readRock_39 (fun u_6 H locs hφ hP hD hS => ?_)
    obtain ⟨I_7, L_8, F_9, G_10⟩ := u_6
    obtain ⟨p_12, p_13, p_14⟩ : ((0 ≤ (I_7 1) ∧ (I_7 1) ≤ 900) ∧ (0 ≤ (I_7 2) ∧ (I_7 2) ≤ 900) ∧ (0 ≤ (I_7 3) ∧ (I_7 3) ≤ (I_7 4)) ∧ ((I_7 4) ≤ (I_7 2)) ∧ (0 ≤ (I_7 5) ∧ (I_7 5) ≤ 4) ∧ (-2147483648 ≤ (I_7 6) ∧ (I_7 6) < 2147483648) ∧ (-1 ≤ (I_7 7) ∧ (I_7 7) ≤ 24)) ∧ ((I_7 1) = (I_3 1)) ∧ ((I_7 0) = 0 ∨ (I_7 0) = 1) := hφ
    refine W.eq (g2 := F0 m 42 ls [.int (iZ (I_7 0))]) rfl ?_
    rcases (show ((I_7 0) = 0) ∨ ((I_7 0) = 1) from (by omega)) with s_15 | s_15
    ·
      rw [s_15]
      refine lv_if_eq (tgt := 85) hx hb dX6_readRock_42 (by decide) (fun _ => ?_) (fun c => absurd (by decide) c)
      refine lv_iconst (v := iZ 0) hx hb dX6_readRock_85 (by decide) ?_
      refine lv_istore_n (lv' := [(2, .int (iZ 0)), (1, .int (iZ n)), (0, .ref hq)]) hx hb dX6_readRock_86 rfl hl (by decide) rfl (fun ls hl => ?_)
      refine lv_iload_n hx hb dX6_readRock_87 rfl (lv_at hl 0 rfl) ?_
      refine lv_if_eq (tgt := 112) hx hb dX6_readRock_88 (by decide) (fun _ => ?_) (fun c => absurd (by decide) c)
      refine lv_iload_n hx hb dX6_readRock_112 rfl (lv_at hl 0 rfl) ?_
      refine lv_if_eq (tgt := 164) hx hb dX6_readRock_113 (by decide) (fun _ => ?_) (fun c => absurd (by decide) c)
      refine lv_iload_n hx hb dX6_readRock_164 rfl (lv_at hl 0 rfl) ?_
      refine lv_if_eq (tgt := 202) hx hb dX6_readRock_165 (by decide) (fun _ => ?_) (fun c => absurd (by decide) c)
      refine lv_iload_n hx hb dX6_readRock_202 rfl (lv_at hl 0 rfl) ?_
      refine lv_if_eq (tgt := 218) hx hb dX6_readRock_203 (by decide) (fun _ => ?_) (fun c => absurd (by decide) c)
      refine lv_iconst (v := iZ 0) hx hb dX6_readRock_218 (by decide) ?_
      exact EWz hx hb hr hlocks hS (fun i => [0, (I_7 1), (I_7 2), (I_7 3), (I_7 4), (I_7 5), (I_7 6), (I_7 7), (I_7 8), (I_7 9), n, we].getD i 0, fun i => [0, (L_8 1)].getD i 0, fun i => [f].getD i (fun _ => 0), fun i => [(G_10 0)].getD i (fun _ => 0)) rfl rfl ⟨(show (0 ≤ (I_7 1) ∧ (I_7 1) ≤ 900) ∧ (0 ≤ (I_7 2) ∧ (I_7 2) ≤ 900) ∧ (0 ≤ (I_7 3) ∧ (I_7 3) ≤ (I_7 4)) ∧ ((I_7 4) ≤ (I_7 2)) ∧ (0 ≤ (I_7 5) ∧ (I_7 5) ≤ 4) ∧ (-2147483648 ≤ (I_7 6) ∧ (I_7 6) < 2147483648) ∧ (-1 ≤ (I_7 7) ∧ (I_7 7) ≤ 24) from (by first | with_reducible assumption | exact ⟨⟨by omega, by omega⟩, ⟨by omega, by omega⟩, ⟨by omega, by omega⟩, by omega, ⟨by omega, by omega⟩, ⟨by omega, by omega⟩, by omega, by omega⟩)), (show (I_7 1) = tp from (by omega)), (show -2147483648 ≤ we ∧ we < 2147483648 from ⟨by omega, by omega⟩), (show 0 = 0 ∨ (0 = 1 ∧ (0 ≤ n ∧ n ≤ 6) ∧ SKZ f n) from (Or.inl rfl))⟩ (hP.sub [0, 1, 2, 3, 4, 5, 6, 7] rfl) (hD.sub [0, 1, 2, 3, 4, 5, 6, 7] rfl rfl) dX6_readRock_219
    ·
      rw [s_15]
      refine lv_if_eq (tgt := 85) hx hb dX6_readRock_42 (by decide) (fun c => absurd c (by decide)) (fun _ => ?_)
      refine lv_aload_n hx hb dX6_readRock_45 rfl (lv_at hl 1 rfl) ?_
      refine lv_iconst (v := iZ 1) hx hb dX6_readRock_46 (by decide) ?_
      refine lv_iconst (v := iZ 0) hx hb dX6_readRock_47 (by decide) ?_
      refine lv_iconst (v := iZ 0) hx hb dX6_readRock_48 (by decide) ?_
      refine lv_bipush (v := iZ 20) hx hb dX6_readRock_49 (by decide) ?_
      refine CWV (As := [.int (iZ 1), .int (iZ 0), .int (iZ 0), .int (iZ 20)]) (rest := []) (wc := [(hq, .inr (6, [.ref hr1, .ref hs, .int (iZ lt)])), (hr1, .inr (4, [.ref tx, .ref kw, .int (iZ (I_7 1)), .int (iZ (I_7 2)), .int (iZ (I_7 3)), .int (iZ (I_7 4)), .int (iZ (I_7 5)), .int (iZ (I_7 6)), .int (iZ (I_7 7)), .long (L_8 1), .int (iZ (I_7 8)), .int (iZ (I_7 9))])), (tx, .inl (k 0, 900, .inl bf)), (kw, .inl (k 2, 25, .inr (.inl kwf))), (hs, .inr (5, [.ref hN, .ref hf, .ref hg, .int (iZ n), .int (iZ ni), .int (iZ lw), .int (iZ we)])), (hN, .inl (k 2, 6, .inr (.inl (G_10 0)))), (hf, .inl (k 1, 36, .inl f)), (hg, .inl (k 1, 32, .inl g))]) (wr := []) hx hb hml hown hts hKK hP hD hS hA (k_readFact l D k hq hr1 tx kw lt (I_7 1) (I_7 2) (I_7 3) (I_7 4) (I_7 5) (I_7 6) (I_7 7) (I_7 8) (I_7 9) (L_8 1) bf kwf hs hN hf hg n ni lw we (G_10 0) f g 1 0 0 20 (by first | with_reducible assumption | exact ⟨⟨by omega, by omega⟩, ⟨by omega, by omega⟩, ⟨by omega, by omega⟩, by omega, ⟨by omega, by omega⟩, ⟨by omega, by omega⟩, by omega, by omega⟩) ⟨by omega, by omega⟩ ⟨by omega, by omega⟩ ⟨by omega, by omega⟩ ⟨by omega, by omega⟩ ⟨by omega, by omega⟩) ci_X6_readFact qm_X6_60 ⟨Nat.le_of_ble_eq_true rfl, Nat.le_of_ble_eq_true rfl⟩ ⟨Nat.le_of_ble_eq_true rfl, Nat.le_of_ble_eq_true rfl⟩ [0, 1, 2, 3, 4, 5, 6, 7] [] rfl rfl rfl rfl rfl (by decide) 0 rfl rfl rfl hl.1 rfl (Nat.le_of_ble_eq_true rfl) dX6_readRock_51 (fun u_22 H locs hφ hP hD hS => ?_)
      obtain ⟨I_23, L_24, F_25, G_26⟩ := u_22
      obtain ⟨p_28, p_29, p_30⟩ : ((0 ≤ (I_23 1) ∧ (I_23 1) ≤ 900) ∧ (0 ≤ (I_23 2) ∧ (I_23 2) ≤ 900) ∧ (0 ≤ (I_23 3) ∧ (I_23 3) ≤ (I_23 4)) ∧ ((I_23 4) ≤ (I_23 2)) ∧ (0 ≤ (I_23 5) ∧ (I_23 5) ≤ 4) ∧ (-2147483648 ≤ (I_23 6) ∧ (I_23 6) < 2147483648) ∧ (-1 ≤ (I_23 7) ∧ (I_23 7) ≤ 24)) ∧ ((I_23 1) = (I_7 1)) ∧ ((I_23 0) = 0 ∨ ((I_23 0) = 1 ∧ ∃ v6 : Int, 0 ≤ v6 ∧ v6 ≤ 20 ∧ (F_25 0) = upd f (iZ ((n * 6) + 0)).toNatClampNeg (iZ v6))) := hφ
      refine W.eq (g2 := F0 m 54 ls [.int (iZ (I_23 0))]) rfl ?_
      rcases p_30 with qt_31 | ⟨qt_31, vt_31, g1t_31, g2t_31, ht_31⟩
      ·
        rw [qt_31]
        refine lv_if_eq (tgt := 85) hx hb dX6_readRock_54 (by decide) (fun _ => ?_) (fun c => absurd (by decide) c)
        refine lv_iconst (v := iZ 0) hx hb dX6_readRock_85 (by decide) ?_
        refine lv_istore_n (lv' := [(2, .int (iZ 0)), (1, .int (iZ n)), (0, .ref hq)]) hx hb dX6_readRock_86 rfl hl (by decide) rfl (fun ls hl => ?_)
        refine lv_iload_n hx hb dX6_readRock_87 rfl (lv_at hl 0 rfl) ?_
        refine lv_if_eq (tgt := 112) hx hb dX6_readRock_88 (by decide) (fun _ => ?_) (fun c => absurd (by decide) c)
        refine lv_iload_n hx hb dX6_readRock_112 rfl (lv_at hl 0 rfl) ?_
        refine lv_if_eq (tgt := 164) hx hb dX6_readRock_113 (by decide) (fun _ => ?_) (fun c => absurd (by decide) c)
        refine lv_iload_n hx hb dX6_readRock_164 rfl (lv_at hl 0 rfl) ?_
        refine lv_if_eq (tgt := 202) hx hb dX6_readRock_165 (by decide) (fun _ => ?_) (fun c => absurd (by decide) c)
        refine lv_iload_n hx hb dX6_readRock_202 rfl (lv_at hl 0 rfl) ?_
        refine lv_if_eq (tgt := 218) hx hb dX6_readRock_203 (by decide) (fun _ => ?_) (fun c => absurd (by decide) c)
        refine lv_iconst (v := iZ 0) hx hb dX6_readRock_218 (by decide) ?_
        exact EWz hx hb hr hlocks hS (fun i => [0, (I_23 1), (I_23 2), (I_23 3), (I_23 4), (I_23 5), (I_23 6), (I_23 7), (I_23 8), (I_23 9), n, we].getD i 0, fun i => [0, (L_24 1)].getD i 0, fun i => [(F_25 0)].getD i (fun _ => 0), fun i => [(G_10 0)].getD i (fun _ => 0)) rfl rfl ⟨(show (0 ≤ (I_23 1) ∧ (I_23 1) ≤ 900) ∧ (0 ≤ (I_23 2) ∧ (I_23 2) ≤ 900) ∧ (0 ≤ (I_23 3) ∧ (I_23 3) ≤ (I_23 4)) ∧ ((I_23 4) ≤ (I_23 2)) ∧ (0 ≤ (I_23 5) ∧ (I_23 5) ≤ 4) ∧ (-2147483648 ≤ (I_23 6) ∧ (I_23 6) < 2147483648) ∧ (-1 ≤ (I_23 7) ∧ (I_23 7) ≤ 24) from (by first | with_reducible assumption | exact ⟨⟨by omega, by omega⟩, ⟨by omega, by omega⟩, ⟨by omega, by omega⟩, by omega, ⟨by omega, by omega⟩, ⟨by omega, by omega⟩, by omega, by omega⟩)), (show (I_23 1) = tp from (by omega)), (show -2147483648 ≤ we ∧ we < 2147483648 from ⟨by omega, by omega⟩), (show 0 = 0 ∨ (0 = 1 ∧ (0 ≤ n ∧ n ≤ 6) ∧ SKZ (F_25 0) n) from (Or.inl rfl))⟩ (hP.sub [0, 1, 2, 3, 4, 5, 6, 7] rfl) (hD.sub [0, 1, 2, 3, 4, 5, 6, 7] rfl rfl) dX6_readRock_219
      ·
        rw [qt_31]
        have sk_37 : SKR _ n 0 := SKR.up (w := 0) sk1 ht_31 ⟨by omega, by omega⟩ (by omega)
        refine lv_if_eq (tgt := 85) hx hb dX6_readRock_54 (by decide) (fun c => absurd c (by decide)) (fun _ => ?_)
        refine lv_aload_n hx hb dX6_readRock_57 rfl (lv_at hl 1 rfl) ?_
        refine lv_iconst (v := iZ 2) hx hb dX6_readRock_58 (by decide) ?_
        refine lv_iconst (v := iZ 1) hx hb dX6_readRock_59 (by decide) ?_
        refine lv_iconst (v := iZ 1) hx hb dX6_readRock_60 (by decide) ?_
        refine lv_bipush (v := iZ 99) hx hb dX6_readRock_61 (by decide) ?_
        refine CWV (As := [.int (iZ 2), .int (iZ 1), .int (iZ 1), .int (iZ 99)]) (rest := []) (wc := [(hq, .inr (6, [.ref hr1, .ref hs, .int (iZ lt)])), (hr1, .inr (4, [.ref tx, .ref kw, .int (iZ (I_23 1)), .int (iZ (I_23 2)), .int (iZ (I_23 3)), .int (iZ (I_23 4)), .int (iZ (I_23 5)), .int (iZ (I_23 6)), .int (iZ (I_23 7)), .long (L_24 1), .int (iZ (I_23 8)), .int (iZ (I_23 9))])), (tx, .inl (k 0, 900, .inl bf)), (kw, .inl (k 2, 25, .inr (.inl kwf))), (hs, .inr (5, [.ref hN, .ref hf, .ref hg, .int (iZ n), .int (iZ ni), .int (iZ lw), .int (iZ we)])), (hN, .inl (k 2, 6, .inr (.inl (G_10 0)))), (hf, .inl (k 1, 36, .inl (F_25 0))), (hg, .inl (k 1, 32, .inl g))]) (wr := []) hx hb hml hown hts hKK hP hD hS hA (k_readFact l D k hq hr1 tx kw lt (I_23 1) (I_23 2) (I_23 3) (I_23 4) (I_23 5) (I_23 6) (I_23 7) (I_23 8) (I_23 9) (L_24 1) bf kwf hs hN hf hg n ni lw we (G_10 0) (F_25 0) g 2 1 1 99 (by first | with_reducible assumption | exact ⟨⟨by omega, by omega⟩, ⟨by omega, by omega⟩, ⟨by omega, by omega⟩, by omega, ⟨by omega, by omega⟩, ⟨by omega, by omega⟩, by omega, by omega⟩) ⟨by omega, by omega⟩ ⟨by omega, by omega⟩ ⟨by omega, by omega⟩ ⟨by omega, by omega⟩ ⟨by omega, by omega⟩) ci_X6_readFact qm_X6_60 ⟨Nat.le_of_ble_eq_true rfl, Nat.le_of_ble_eq_true rfl⟩ ⟨Nat.le_of_ble_eq_true rfl, Nat.le_of_ble_eq_true rfl⟩ [0, 1, 2, 3, 4, 5, 6, 7] [] rfl rfl rfl rfl rfl (by decide) 0 rfl rfl rfl hl.1 rfl (Nat.le_of_ble_eq_true rfl) dX6_readRock_63 (fun u_39 H locs hφ hP hD hS => ?_)
        obtain ⟨I_40, L_41, F_42, G_43⟩ := u_39
        obtain ⟨p_45, p_46, p_47⟩ : ((0 ≤ (I_40 1) ∧ (I_40 1) ≤ 900) ∧ (0 ≤ (I_40 2) ∧ (I_40 2) ≤ 900) ∧ (0 ≤ (I_40 3) ∧ (I_40 3) ≤ (I_40 4)) ∧ ((I_40 4) ≤ (I_40 2)) ∧ (0 ≤ (I_40 5) ∧ (I_40 5) ≤ 4) ∧ (-2147483648 ≤ (I_40 6) ∧ (I_40 6) < 2147483648) ∧ (-1 ≤ (I_40 7) ∧ (I_40 7) ≤ 24)) ∧ ((I_40 1) = (I_23 1)) ∧ ((I_40 0) = 0 ∨ ((I_40 0) = 1 ∧ ∃ v6 : Int, 1 ≤ v6 ∧ v6 ≤ 99 ∧ (F_42 0) = upd (F_25 0) (iZ ((n * 6) + 1)).toNatClampNeg (iZ v6))) := hφ
        refine W.eq (g2 := F0 m 66 ls [.int (iZ (I_40 0))]) rfl ?_
        rcases p_47 with qt_48 | ⟨qt_48, vt_48, g1t_48, g2t_48, ht_48⟩
        ·
          rw [qt_48]
          refine lv_if_eq (tgt := 85) hx hb dX6_readRock_66 (by decide) (fun _ => ?_) (fun c => absurd (by decide) c)
          refine lv_iconst (v := iZ 0) hx hb dX6_readRock_85 (by decide) ?_
          refine lv_istore_n (lv' := [(2, .int (iZ 0)), (1, .int (iZ n)), (0, .ref hq)]) hx hb dX6_readRock_86 rfl hl (by decide) rfl (fun ls hl => ?_)
          refine lv_iload_n hx hb dX6_readRock_87 rfl (lv_at hl 0 rfl) ?_
          refine lv_if_eq (tgt := 112) hx hb dX6_readRock_88 (by decide) (fun _ => ?_) (fun c => absurd (by decide) c)
          refine lv_iload_n hx hb dX6_readRock_112 rfl (lv_at hl 0 rfl) ?_
          refine lv_if_eq (tgt := 164) hx hb dX6_readRock_113 (by decide) (fun _ => ?_) (fun c => absurd (by decide) c)
          refine lv_iload_n hx hb dX6_readRock_164 rfl (lv_at hl 0 rfl) ?_
          refine lv_if_eq (tgt := 202) hx hb dX6_readRock_165 (by decide) (fun _ => ?_) (fun c => absurd (by decide) c)
          refine lv_iload_n hx hb dX6_readRock_202 rfl (lv_at hl 0 rfl) ?_
          refine lv_if_eq (tgt := 218) hx hb dX6_readRock_203 (by decide) (fun _ => ?_) (fun c => absurd (by decide) c)
          refine lv_iconst (v := iZ 0) hx hb dX6_readRock_218 (by decide) ?_
          exact EWz hx hb hr hlocks hS (fun i => [0, (I_40 1), (I_40 2), (I_40 3), (I_40 4), (I_40 5), (I_40 6), (I_40 7), (I_40 8), (I_40 9), n, we].getD i 0, fun i => [0, (L_41 1)].getD i 0, fun i => [(F_42 0)].getD i (fun _ => 0), fun i => [(G_10 0)].getD i (fun _ => 0)) rfl rfl ⟨(show (0 ≤ (I_40 1) ∧ (I_40 1) ≤ 900) ∧ (0 ≤ (I_40 2) ∧ (I_40 2) ≤ 900) ∧ (0 ≤ (I_40 3) ∧ (I_40 3) ≤ (I_40 4)) ∧ ((I_40 4) ≤ (I_40 2)) ∧ (0 ≤ (I_40 5) ∧ (I_40 5) ≤ 4) ∧ (-2147483648 ≤ (I_40 6) ∧ (I_40 6) < 2147483648) ∧ (-1 ≤ (I_40 7) ∧ (I_40 7) ≤ 24) from (by first | with_reducible assumption | exact ⟨⟨by omega, by omega⟩, ⟨by omega, by omega⟩, ⟨by omega, by omega⟩, by omega, ⟨by omega, by omega⟩, ⟨by omega, by omega⟩, by omega, by omega⟩)), (show (I_40 1) = tp from (by omega)), (show -2147483648 ≤ we ∧ we < 2147483648 from ⟨by omega, by omega⟩), (show 0 = 0 ∨ (0 = 1 ∧ (0 ≤ n ∧ n ≤ 6) ∧ SKZ (F_42 0) n) from (Or.inl rfl))⟩ (hP.sub [0, 1, 2, 3, 4, 5, 6, 7] rfl) (hD.sub [0, 1, 2, 3, 4, 5, 6, 7] rfl rfl) dX6_readRock_219
        ·
          rw [qt_48]
          have sk_54 : SKR _ n 1 := SKR.up (w := 1) sk_37 ht_48 ⟨by omega, by omega⟩ (by omega)
          refine lv_if_eq (tgt := 85) hx hb dX6_readRock_66 (by decide) (fun c => absurd c (by decide)) (fun _ => ?_)
          refine lv_aload_n hx hb dX6_readRock_69 rfl (lv_at hl 1 rfl) ?_
          refine lv_iconst (v := iZ 3) hx hb dX6_readRock_70 (by decide) ?_
          refine lv_iconst (v := iZ 2) hx hb dX6_readRock_71 (by decide) ?_
          refine lv_iconst (v := iZ 0) hx hb dX6_readRock_72 (by decide) ?_
          refine lv_bipush (v := iZ 11) hx hb dX6_readRock_73 (by decide) ?_
          refine CWV (As := [.int (iZ 3), .int (iZ 2), .int (iZ 0), .int (iZ 11)]) (rest := []) (wc := [(hq, .inr (6, [.ref hr1, .ref hs, .int (iZ lt)])), (hr1, .inr (4, [.ref tx, .ref kw, .int (iZ (I_40 1)), .int (iZ (I_40 2)), .int (iZ (I_40 3)), .int (iZ (I_40 4)), .int (iZ (I_40 5)), .int (iZ (I_40 6)), .int (iZ (I_40 7)), .long (L_41 1), .int (iZ (I_40 8)), .int (iZ (I_40 9))])), (tx, .inl (k 0, 900, .inl bf)), (kw, .inl (k 2, 25, .inr (.inl kwf))), (hs, .inr (5, [.ref hN, .ref hf, .ref hg, .int (iZ n), .int (iZ ni), .int (iZ lw), .int (iZ we)])), (hN, .inl (k 2, 6, .inr (.inl (G_10 0)))), (hf, .inl (k 1, 36, .inl (F_42 0))), (hg, .inl (k 1, 32, .inl g))]) (wr := []) hx hb hml hown hts hKK hP hD hS hA (k_readFact l D k hq hr1 tx kw lt (I_40 1) (I_40 2) (I_40 3) (I_40 4) (I_40 5) (I_40 6) (I_40 7) (I_40 8) (I_40 9) (L_41 1) bf kwf hs hN hf hg n ni lw we (G_10 0) (F_42 0) g 3 2 0 11 (by first | with_reducible assumption | exact ⟨⟨by omega, by omega⟩, ⟨by omega, by omega⟩, ⟨by omega, by omega⟩, by omega, ⟨by omega, by omega⟩, ⟨by omega, by omega⟩, by omega, by omega⟩) ⟨by omega, by omega⟩ ⟨by omega, by omega⟩ ⟨by omega, by omega⟩ ⟨by omega, by omega⟩ ⟨by omega, by omega⟩) ci_X6_readFact qm_X6_60 ⟨Nat.le_of_ble_eq_true rfl, Nat.le_of_ble_eq_true rfl⟩ ⟨Nat.le_of_ble_eq_true rfl, Nat.le_of_ble_eq_true rfl⟩ [0, 1, 2, 3, 4, 5, 6, 7] [] rfl rfl rfl rfl rfl (by decide) 0 rfl rfl rfl hl.1 rfl (Nat.le_of_ble_eq_true rfl) dX6_readRock_75 (fun u_56 H locs hφ hP hD hS => ?_)
          obtain ⟨I_57, L_58, F_59, G_60⟩ := u_56
          obtain ⟨p_62, p_63, p_64⟩ : ((0 ≤ (I_57 1) ∧ (I_57 1) ≤ 900) ∧ (0 ≤ (I_57 2) ∧ (I_57 2) ≤ 900) ∧ (0 ≤ (I_57 3) ∧ (I_57 3) ≤ (I_57 4)) ∧ ((I_57 4) ≤ (I_57 2)) ∧ (0 ≤ (I_57 5) ∧ (I_57 5) ≤ 4) ∧ (-2147483648 ≤ (I_57 6) ∧ (I_57 6) < 2147483648) ∧ (-1 ≤ (I_57 7) ∧ (I_57 7) ≤ 24)) ∧ ((I_57 1) = (I_40 1)) ∧ ((I_57 0) = 0 ∨ ((I_57 0) = 1 ∧ ∃ v6 : Int, 0 ≤ v6 ∧ v6 ≤ 11 ∧ (F_59 0) = upd (F_42 0) (iZ ((n * 6) + 2)).toNatClampNeg (iZ v6))) := hφ
          refine W.eq (g2 := F0 m 78 ls [.int (iZ (I_57 0))]) rfl ?_
          rcases p_64 with qt_65 | ⟨qt_65, vt_65, g1t_65, g2t_65, ht_65⟩
          ·
            rw [qt_65]
            refine lv_if_eq (tgt := 85) hx hb dX6_readRock_78 (by decide) (fun _ => ?_) (fun c => absurd (by decide) c)
            refine lv_iconst (v := iZ 0) hx hb dX6_readRock_85 (by decide) ?_
            refine lv_istore_n (lv' := [(2, .int (iZ 0)), (1, .int (iZ n)), (0, .ref hq)]) hx hb dX6_readRock_86 rfl hl (by decide) rfl (fun ls hl => ?_)
            refine lv_iload_n hx hb dX6_readRock_87 rfl (lv_at hl 0 rfl) ?_
            refine lv_if_eq (tgt := 112) hx hb dX6_readRock_88 (by decide) (fun _ => ?_) (fun c => absurd (by decide) c)
            refine lv_iload_n hx hb dX6_readRock_112 rfl (lv_at hl 0 rfl) ?_
            refine lv_if_eq (tgt := 164) hx hb dX6_readRock_113 (by decide) (fun _ => ?_) (fun c => absurd (by decide) c)
            refine lv_iload_n hx hb dX6_readRock_164 rfl (lv_at hl 0 rfl) ?_
            refine lv_if_eq (tgt := 202) hx hb dX6_readRock_165 (by decide) (fun _ => ?_) (fun c => absurd (by decide) c)
            refine lv_iload_n hx hb dX6_readRock_202 rfl (lv_at hl 0 rfl) ?_
            refine lv_if_eq (tgt := 218) hx hb dX6_readRock_203 (by decide) (fun _ => ?_) (fun c => absurd (by decide) c)
            refine lv_iconst (v := iZ 0) hx hb dX6_readRock_218 (by decide) ?_
            exact EWz hx hb hr hlocks hS (fun i => [0, (I_57 1), (I_57 2), (I_57 3), (I_57 4), (I_57 5), (I_57 6), (I_57 7), (I_57 8), (I_57 9), n, we].getD i 0, fun i => [0, (L_58 1)].getD i 0, fun i => [(F_59 0)].getD i (fun _ => 0), fun i => [(G_10 0)].getD i (fun _ => 0)) rfl rfl ⟨(show (0 ≤ (I_57 1) ∧ (I_57 1) ≤ 900) ∧ (0 ≤ (I_57 2) ∧ (I_57 2) ≤ 900) ∧ (0 ≤ (I_57 3) ∧ (I_57 3) ≤ (I_57 4)) ∧ ((I_57 4) ≤ (I_57 2)) ∧ (0 ≤ (I_57 5) ∧ (I_57 5) ≤ 4) ∧ (-2147483648 ≤ (I_57 6) ∧ (I_57 6) < 2147483648) ∧ (-1 ≤ (I_57 7) ∧ (I_57 7) ≤ 24) from (by first | with_reducible assumption | exact ⟨⟨by omega, by omega⟩, ⟨by omega, by omega⟩, ⟨by omega, by omega⟩, by omega, ⟨by omega, by omega⟩, ⟨by omega, by omega⟩, by omega, by omega⟩)), (show (I_57 1) = tp from (by omega)), (show -2147483648 ≤ we ∧ we < 2147483648 from ⟨by omega, by omega⟩), (show 0 = 0 ∨ (0 = 1 ∧ (0 ≤ n ∧ n ≤ 6) ∧ SKZ (F_59 0) n) from (Or.inl rfl))⟩ (hP.sub [0, 1, 2, 3, 4, 5, 6, 7] rfl) (hD.sub [0, 1, 2, 3, 4, 5, 6, 7] rfl rfl) dX6_readRock_219
          ·
            rw [qt_65]
            have sk_71 : SKR _ n 1 := SKR.up (w := 2) sk_54 ht_65 ⟨by omega, by omega⟩ (by omega)
            refine lv_if_eq (tgt := 85) hx hb dX6_readRock_78 (by decide) (fun c => absurd c (by decide)) (fun _ => ?_)
            refine lv_iconst (v := iZ 1) hx hb dX6_readRock_81 (by decide) ?_
            refine lv_goto (tgt := 86) hx hb dX6_readRock_82 (by decide) ?_
            refine lv_istore_n (lv' := [(2, .int (iZ 1)), (1, .int (iZ n)), (0, .ref hq)]) hx hb dX6_readRock_86 rfl hl (by decide) rfl (fun ls hl => ?_)
            refine lv_iload_n hx hb dX6_readRock_87 rfl (lv_at hl 0 rfl) ?_
            refine lv_if_eq (tgt := 112) hx hb dX6_readRock_88 (by decide) (fun c => absurd c (by decide)) (fun _ => ?_)
            refine lv_aload_n hx hb dX6_readRock_91 rfl (lv_at hl 2 rfl) ?_
            refine va_get (D := D) (ci := 6) (v := .ref hr1) (C := RX6) (T := TX6) (N := 3) hx hb hts iX6 hown hK hP 0 rfl rfl 0 (by decide) (hts _ qf_X6_9) (fun _ h => h) rfl dX6_readRock_92 ?_
            refine va_get (D := D) (ci := 4) (v := .int (iZ (I_57 7))) (C := RX4) (T := TX4) (N := 12) hx hb hts iX4 hown hK hP 1 rfl rfl 8 (by decide) (hts _ qf_X6_34) (fun _ h => h) rfl dX6_readRock_95 ?_
            refine lv_iconst (v := iZ 4) hx hb dX6_readRock_98 (by decide) ?_
            refine lv_icmp_ne (tgt := 112) hx hb dX6_readRock_99 (by decide) (fun c_74 => ?_) (fun c_74 => ?_)
            ·
              have c_74 := mt (zeq (x := iZ (I_57 7)) (y := iZ 4) rfl rfl ⟨by omega, by omega⟩ ⟨by omega, by omega⟩).mpr c_74
              refine lv_iload_n hx hb dX6_readRock_112 rfl (lv_at hl 0 rfl) ?_
              refine lv_if_eq (tgt := 164) hx hb dX6_readRock_113 (by decide) (fun c => absurd c (by decide)) (fun _ => ?_)
              refine lv_aload_n hx hb dX6_readRock_116 rfl (lv_at hl 2 rfl) ?_
              refine va_get (D := D) (ci := 6) (v := .ref hr1) (C := RX6) (T := TX6) (N := 3) hx hb hts iX6 hown hK hP 0 rfl rfl 0 (by decide) (hts _ qf_X6_9) (fun _ h => h) rfl dX6_readRock_117 ?_
              refine va_get (D := D) (ci := 4) (v := .int (iZ (I_57 7))) (C := RX4) (T := TX4) (N := 12) hx hb hts iX4 hown hK hP 1 rfl rfl 8 (by decide) (hts _ qf_X6_34) (fun _ h => h) rfl dX6_readRock_120 ?_
              refine lv_iconst (v := iZ 5) hx hb dX6_readRock_123 (by decide) ?_
              refine lv_icmp_ne (tgt := 164) hx hb dX6_readRock_124 (by decide) (fun c_76 => ?_) (fun c_76 => ?_)
              ·
                have c_76 := mt (zeq (x := iZ (I_57 7)) (y := iZ 5) rfl rfl ⟨by omega, by omega⟩ ⟨by omega, by omega⟩).mpr c_76
                refine lv_iload_n hx hb dX6_readRock_164 rfl (lv_at hl 0 rfl) ?_
                refine lv_if_eq (tgt := 202) hx hb dX6_readRock_165 (by decide) (fun c => absurd c (by decide)) (fun _ => ?_)
                refine lv_aload_n hx hb dX6_readRock_168 rfl (lv_at hl 2 rfl) ?_
                refine va_get (D := D) (ci := 6) (v := .ref hr1) (C := RX6) (T := TX6) (N := 3) hx hb hts iX6 hown hK hP 0 rfl rfl 0 (by decide) (hts _ qf_X6_9) (fun _ h => h) rfl dX6_readRock_169 ?_
                refine va_get (D := D) (ci := 4) (v := .int (iZ (I_57 7))) (C := RX4) (T := TX4) (N := 12) hx hb hts iX4 hown hK hP 1 rfl rfl 8 (by decide) (hts _ qf_X6_34) (fun _ h => h) rfl dX6_readRock_172 ?_
                refine lv_bipush (v := iZ 7) hx hb dX6_readRock_175 (by decide) ?_
                refine lv_icmp_ne (tgt := 202) hx hb dX6_readRock_177 (by decide) (fun c_78 => ?_) (fun c_78 => ?_)
                ·
                  have c_78 := mt (zeq (x := iZ (I_57 7)) (y := iZ 7) rfl rfl ⟨by omega, by omega⟩ ⟨by omega, by omega⟩).mpr c_78
                  refine lv_iload_n hx hb dX6_readRock_202 rfl (lv_at hl 0 rfl) ?_
                  refine lv_if_eq (tgt := 218) hx hb dX6_readRock_203 (by decide) (fun c => absurd c (by decide)) (fun _ => ?_)
                  refine lv_aload_n hx hb dX6_readRock_206 rfl (lv_at hl 2 rfl) ?_
                  refine va_get (D := D) (ci := 6) (v := .ref hr1) (C := RX6) (T := TX6) (N := 3) hx hb hts iX6 hown hK hP 0 rfl rfl 0 (by decide) (hts _ qf_X6_9) (fun _ h => h) rfl dX6_readRock_207 ?_
                  refine lv_bipush (v := iZ 59) hx hb dX6_readRock_210 (by decide) ?_
                  refine CWV (As := [.int (iZ 59)]) (rest := []) (wc := [(hr1, .inr (4, [.ref tx, .ref kw, .int (iZ (I_57 1)), .int (iZ (I_57 2)), .int (iZ (I_57 3)), .int (iZ (I_57 4)), .int (iZ (I_57 5)), .int (iZ (I_57 6)), .int (iZ (I_57 7)), .long (L_58 1), .int (iZ (I_57 8)), .int (iZ (I_57 9))])), (tx, .inl (k 0, 900, .inl bf)), (kw, .inl (k 2, 25, .inr (.inl kwf)))]) (wr := [(hq, .inr (6, [.ref hr1, .ref hs, .int (iZ lt)])), (hs, .inr (5, [.ref hN, .ref hf, .ref hg, .int (iZ n), .int (iZ ni), .int (iZ lw), .int (iZ we)])), (hN, .inl (k 2, 6, .inr (.inl (G_10 0)))), (hf, .inl (k 1, 36, .inl (F_59 0))), (hg, .inl (k 1, 32, .inl g))]) hx hb hml hown hts hKK hP hD hS hA (k_takeSign l D k hr1 tx kw bf kwf (I_57 1) (I_57 2) (I_57 3) (I_57 4) (I_57 5) (I_57 6) (I_57 7) (I_57 8) (I_57 9) (L_58 1) (show RDI _ from (show (0 ≤ (I_57 1) ∧ (I_57 1) ≤ 900) ∧ (0 ≤ (I_57 2) ∧ (I_57 2) ≤ 900) ∧ (0 ≤ (I_57 3) ∧ (I_57 3) ≤ (I_57 4)) ∧ ((I_57 4) ≤ (I_57 2)) ∧ (0 ≤ (I_57 5) ∧ (I_57 5) ≤ 4) ∧ (-2147483648 ≤ (I_57 6) ∧ (I_57 6) < 2147483648) ∧ (-1 ≤ (I_57 7) ∧ (I_57 7) ≤ 24) from ⟨⟨by omega, by omega⟩, ⟨by omega, by omega⟩, ⟨by omega, by omega⟩, by omega, ⟨by omega, by omega⟩, ⟨by omega, by omega⟩, by omega, by omega⟩)) 59 ⟨by omega, by omega⟩) ci_X4_takeSign qm_X6_67 ⟨Nat.le_of_ble_eq_true rfl, Nat.le_of_ble_eq_true rfl⟩ ⟨Nat.le_of_ble_eq_true rfl, Nat.le_of_ble_eq_true rfl⟩ [1, 2, 3] [0, 4, 5, 6, 7] rfl rfl rfl rfl rfl (by decide) 0 rfl rfl rfl hl.1 rfl (Nat.le_of_ble_eq_true rfl) dX6_readRock_212 (fun u_80 H locs hφ hP hD hS => ?_)
                  obtain ⟨I_81, nm_82⟩ := u_80
                  obtain ⟨ah_83, b1h_83, b2h_83, b3h_83, b4h_83, b5h_83, b6h_83, b7h_83⟩ := hφ
                  dsimp only at ah_83 b1h_83 b2h_83 b3h_83 b4h_83 b5h_83 b6h_83 b7h_83
                  refine W.eq (g2 := F0 m 215 ls [.int (iZ (I_81 0))]) rfl ?_
                  rcases (show ((I_81 0) = 0) ∨ ((I_81 0) = 1) from (by omega)) with s_84 | s_84
                  ·
                    rw [s_84]
                    refine lv_if_ne (tgt := 220) hx hb dX6_readRock_215 (by decide) (fun c => absurd (by decide) c) (fun _ => ?_)
                    refine lv_iconst (v := iZ 0) hx hb dX6_readRock_218 (by decide) ?_
                    exact EWz hx hb hr hlocks hS (fun i => [0, (I_81 1), (I_81 2), (I_81 3), (I_81 4), (I_81 5), (I_81 6), (I_81 7), (I_81 8), (I_81 9), n, we].getD i 0, fun i => [0, nm_82].getD i 0, fun i => [(F_59 0)].getD i (fun _ => 0), fun i => [(G_10 0)].getD i (fun _ => 0)) rfl rfl ⟨(show (0 ≤ (I_81 1) ∧ (I_81 1) ≤ 900) ∧ (0 ≤ (I_81 2) ∧ (I_81 2) ≤ 900) ∧ (0 ≤ (I_81 3) ∧ (I_81 3) ≤ (I_81 4)) ∧ ((I_81 4) ≤ (I_81 2)) ∧ (0 ≤ (I_81 5) ∧ (I_81 5) ≤ 4) ∧ (-2147483648 ≤ (I_81 6) ∧ (I_81 6) < 2147483648) ∧ (-1 ≤ (I_81 7) ∧ (I_81 7) ≤ 24) from (by first | with_reducible assumption | exact ⟨⟨by omega, by omega⟩, ⟨by omega, by omega⟩, ⟨by omega, by omega⟩, by omega, ⟨by omega, by omega⟩, ⟨by omega, by omega⟩, by omega, by omega⟩)), (show (I_81 1) = tp from (by omega)), (show -2147483648 ≤ we ∧ we < 2147483648 from ⟨by omega, by omega⟩), (show 0 = 0 ∨ (0 = 1 ∧ (0 ≤ n ∧ n ≤ 6) ∧ SKZ (F_59 0) n) from (Or.inl rfl))⟩ (hP.sub [0, 5, 6, 7, 1, 2, 3, 4] rfl) (hD.sub [0, 5, 6, 7, 1, 2, 3, 4] rfl rfl) dX6_readRock_219
                  ·
                    rw [s_84]
                    refine lv_if_ne (tgt := 220) hx hb dX6_readRock_215 (by decide) (fun _ => ?_) (fun c => absurd c (by decide))
                    refine lv_aload_n hx hb dX6_readRock_220 rfl (lv_at hl 2 rfl) ?_
                    refine va_get (D := D) (ci := 6) (v := .ref hs) (C := RX6) (T := TX6) (N := 3) hx hb hts iX6 hown hK hP 0 rfl rfl 1 (by decide) (hts _ qf_X6_15) (fun _ h => h) rfl dX6_readRock_221 ?_
                    refine lv_dup hx hb dX6_readRock_224 rfl ?_
                    refine va_get (D := D) (ci := 5) (v := .int (iZ n)) (C := RX5) (T := TX5) (N := 7) hx hb hts iX5 hown hK hP 1 rfl rfl 3 (by decide) (hts _ qf_X6_51) (fun _ h => h) rfl dX6_readRock_225 ?_
                    refine lv_iconst (v := iZ 1) hx hb dX6_readRock_228 (by decide) ?_
                    refine lv_iadd hx hb dX6_readRock_229 ?_
                    refine lv_topi (fun x_87 ex_87 => ?_)
                    obtain rfl : x_87 = iZ (n + 1) := ex_87.trans (iZ_add n 1)
                    refine va_put (D := D) (ci := 5) (v := .int (iZ (n + 1))) (ty := .int) (C := RX5) (T := TX5) (N := 7) hx hb hts iX5 tyX5 tyX5_ok nmX5 hown hK hP hD hS 1 rfl rfl 3 (by decide) (hts _ qf_X6_51) (fun _ h => h) rfl (by decide +kernel) rfl rfl (Nat.le_of_ble_eq_true rfl) dX6_readRock_230 (fun H locs hP hD hS => ?_)
                    refine lv_iconst (v := iZ 1) hx hb dX6_readRock_233 (by decide) ?_
                    exact EWz hx hb hr hlocks hS (fun i => [1, (I_81 1), (I_81 2), (I_81 3), (I_81 4), (I_81 5), (I_81 6), (I_81 7), (I_81 8), (I_81 9), (n + 1), we].getD i 0, fun i => [0, nm_82].getD i 0, fun i => [(F_59 0)].getD i (fun _ => 0), fun i => [(G_10 0)].getD i (fun _ => 0)) rfl rfl ⟨(show (0 ≤ (I_81 1) ∧ (I_81 1) ≤ 900) ∧ (0 ≤ (I_81 2) ∧ (I_81 2) ≤ 900) ∧ (0 ≤ (I_81 3) ∧ (I_81 3) ≤ (I_81 4)) ∧ ((I_81 4) ≤ (I_81 2)) ∧ (0 ≤ (I_81 5) ∧ (I_81 5) ≤ 4) ∧ (-2147483648 ≤ (I_81 6) ∧ (I_81 6) < 2147483648) ∧ (-1 ≤ (I_81 7) ∧ (I_81 7) ≤ 24) from (by first | with_reducible assumption | exact ⟨⟨by omega, by omega⟩, ⟨by omega, by omega⟩, ⟨by omega, by omega⟩, by omega, ⟨by omega, by omega⟩, ⟨by omega, by omega⟩, by omega, by omega⟩)), (show (I_81 1) = tp from (by omega)), (show -2147483648 ≤ we ∧ we < 2147483648 from ⟨by omega, by omega⟩), (show 1 = 0 ∨ (1 = 1 ∧ (0 ≤ (n + 1) ∧ (n + 1) ≤ 6) ∧ SKZ (F_59 0) (n + 1)) from (Or.inr ⟨rfl, ⟨by omega, SKR.skz sk_71 ⟨by omega, by omega⟩⟩⟩))⟩ (hP.sub [0, 5, 6, 7, 1, 2, 3, 4] rfl) (hD.sub [0, 5, 6, 7, 1, 2, 3, 4] rfl rfl) dX6_readRock_234
                ·
                  have c_78 := (zeq (x := iZ (I_57 7)) (y := iZ 7) rfl rfl ⟨by omega, by omega⟩ ⟨by omega, by omega⟩).mp c_78
                  refine lv_aload_n hx hb dX6_readRock_180 rfl (lv_at hl 2 rfl) ?_
                  refine va_get (D := D) (ci := 6) (v := .ref hr1) (C := RX6) (T := TX6) (N := 3) hx hb hts iX6 hown hK hP 0 rfl rfl 0 (by decide) (hts _ qf_X6_9) (fun _ h => h) rfl dX6_readRock_181 ?_
                  refine CWV (As := []) (rest := []) (wc := [(hr1, .inr (4, [.ref tx, .ref kw, .int (iZ (I_57 1)), .int (iZ (I_57 2)), .int (iZ (I_57 3)), .int (iZ (I_57 4)), .int (iZ (I_57 5)), .int (iZ (I_57 6)), .int (iZ (I_57 7)), .long (L_58 1), .int (iZ (I_57 8)), .int (iZ (I_57 9))])), (tx, .inl (k 0, 900, .inl bf)), (kw, .inl (k 2, 25, .inr (.inl kwf)))]) (wr := [(hq, .inr (6, [.ref hr1, .ref hs, .int (iZ lt)])), (hs, .inr (5, [.ref hN, .ref hf, .ref hg, .int (iZ n), .int (iZ ni), .int (iZ lw), .int (iZ we)])), (hN, .inl (k 2, 6, .inr (.inl (G_10 0)))), (hf, .inl (k 1, 36, .inl (F_59 0))), (hg, .inl (k 1, 32, .inl g))]) hx hb hml hown hts hKK hP hD hS hA (k_next l D k hr1 tx kw bf kwf (I_57 1) (I_57 2) (I_57 3) (I_57 4) (I_57 5) (I_57 6) (I_57 7) (I_57 8) (I_57 9) (L_58 1) (show RDI _ from (show (0 ≤ (I_57 1) ∧ (I_57 1) ≤ 900) ∧ (0 ≤ (I_57 2) ∧ (I_57 2) ≤ 900) ∧ (0 ≤ (I_57 4) ∧ (I_57 4) ≤ (I_57 4)) ∧ ((I_57 4) ≤ (I_57 2)) ∧ (0 ≤ (I_57 5) ∧ (I_57 5) ≤ 4) ∧ (-2147483648 ≤ (0 : Int) ∧ (0 : Int) < 2147483648) ∧ (-1 ≤ (-1 : Int) ∧ (-1 : Int) ≤ 24) from ⟨⟨by omega, by omega⟩, ⟨by omega, by omega⟩, ⟨by omega, by omega⟩, by omega, ⟨by omega, by omega⟩, ⟨by omega, by omega⟩, by omega, by omega⟩))) ci_X4_next qm_X6_54 ⟨Nat.le_of_ble_eq_true rfl, Nat.le_of_ble_eq_true rfl⟩ ⟨Nat.le_of_ble_eq_true rfl, Nat.le_of_ble_eq_true rfl⟩ [1, 2, 3] [0, 4, 5, 6, 7] rfl rfl rfl rfl rfl (by decide) 0 rfl rfl rfl hl.1 rfl (Nat.le_of_ble_eq_true rfl) dX6_readRock_184 (fun u_88 H locs hφ hP hD hS => ?_)
                  obtain ⟨I_89, nm_90⟩ := u_88
                  obtain ⟨ah_91, b1h_91, b2h_91, b3h_91, b4h_91, b5h_91, b6h_91, b7h_91⟩ := hφ
                  dsimp only at ah_91 b1h_91 b2h_91 b3h_91 b4h_91 b5h_91 b6h_91 b7h_91
                  refine W.eq (g2 := F0 m 187 ls []) rfl ?_
                  refine lv_aload_n hx hb dX6_readRock_187 rfl (lv_at hl 2 rfl) ?_
                  refine va_get (D := D) (ci := 6) (v := .ref hs) (C := RX6) (T := TX6) (N := 3) hx hb hts iX6 hown hK hP 0 rfl rfl 1 (by decide) (hts _ qf_X6_15) (fun _ h => h) rfl dX6_readRock_188 ?_
                  refine lv_dup hx hb dX6_readRock_191 rfl ?_
                  refine va_get (D := D) (ci := 5) (v := .int (iZ we)) (C := RX5) (T := TX5) (N := 7) hx hb hts iX5 hown hK hP 1 rfl rfl 6 (by decide) (hts _ qf_X6_64) (fun _ h => h) rfl dX6_readRock_192 ?_
                  refine lv_iconst (v := iZ 1) hx hb dX6_readRock_195 (by decide) ?_
                  refine lv_iload_n hx hb dX6_readRock_196 rfl (lv_at hl 1 rfl) ?_
                  refine lv_ishl hx hb dX6_readRock_197 ?_
                  refine lv_topi (fun x_93 ex_93 => ?_)
                  obtain ⟨z_92, hz_92, hz_92a, hz_92b⟩ := i32_z x_93
                  subst hz_92
                  refine lv_ior hx hb dX6_readRock_198 ?_
                  refine lv_topi (fun x_95 ex_95 => ?_)
                  obtain ⟨z_94, hz_94, hz_94a, hz_94b⟩ := i32_z x_95
                  subst hz_94
                  refine va_put (D := D) (ci := 5) (v := .int (iZ z_94)) (ty := .int) (C := RX5) (T := TX5) (N := 7) hx hb hts iX5 tyX5 tyX5_ok nmX5 hown hK hP hD hS 1 rfl rfl 6 (by decide) (hts _ qf_X6_64) (fun _ h => h) rfl (by decide +kernel) rfl rfl (Nat.le_of_ble_eq_true rfl) dX6_readRock_199 (fun H locs hP hD hS => ?_)
                  refine lv_iload_n hx hb dX6_readRock_202 rfl (lv_at hl 0 rfl) ?_
                  refine lv_if_eq (tgt := 218) hx hb dX6_readRock_203 (by decide) (fun c => absurd c (by decide)) (fun _ => ?_)
                  refine lv_aload_n hx hb dX6_readRock_206 rfl (lv_at hl 2 rfl) ?_
                  refine va_get (D := D) (ci := 6) (v := .ref hr1) (C := RX6) (T := TX6) (N := 3) hx hb hts iX6 hown hK hP 0 rfl rfl 0 (by decide) (hts _ qf_X6_9) (fun _ h => h) rfl dX6_readRock_207 ?_
                  refine lv_bipush (v := iZ 59) hx hb dX6_readRock_210 (by decide) ?_
                  refine CWV (As := [.int (iZ 59)]) (rest := []) (wc := [(hr1, .inr (4, [.ref tx, .ref kw, .int (iZ (I_89 1)), .int (iZ (I_89 2)), .int (iZ (I_89 3)), .int (iZ (I_89 4)), .int (iZ (I_89 5)), .int (iZ (I_89 6)), .int (iZ (I_89 7)), .long nm_90, .int (iZ (I_89 8)), .int (iZ (I_89 9))])), (tx, .inl (k 0, 900, .inl bf)), (kw, .inl (k 2, 25, .inr (.inl kwf)))]) (wr := [(hq, .inr (6, [.ref hr1, .ref hs, .int (iZ lt)])), (hs, .inr (5, [.ref hN, .ref hf, .ref hg, .int (iZ n), .int (iZ ni), .int (iZ lw), .int (iZ z_94)])), (hN, .inl (k 2, 6, .inr (.inl (G_10 0)))), (hf, .inl (k 1, 36, .inl (F_59 0))), (hg, .inl (k 1, 32, .inl g))]) hx hb hml hown hts hKK hP hD hS hA (k_takeSign l D k hr1 tx kw bf kwf (I_89 1) (I_89 2) (I_89 3) (I_89 4) (I_89 5) (I_89 6) (I_89 7) (I_89 8) (I_89 9) nm_90 (show RDI _ from (show (0 ≤ (I_89 1) ∧ (I_89 1) ≤ 900) ∧ (0 ≤ (I_89 2) ∧ (I_89 2) ≤ 900) ∧ (0 ≤ (I_89 3) ∧ (I_89 3) ≤ (I_89 4)) ∧ ((I_89 4) ≤ (I_89 2)) ∧ (0 ≤ (I_89 5) ∧ (I_89 5) ≤ 4) ∧ (-2147483648 ≤ (I_89 6) ∧ (I_89 6) < 2147483648) ∧ (-1 ≤ (I_89 7) ∧ (I_89 7) ≤ 24) from ⟨⟨by omega, by omega⟩, ⟨by omega, by omega⟩, ⟨by omega, by omega⟩, by omega, ⟨by omega, by omega⟩, ⟨by omega, by omega⟩, by omega, by omega⟩)) 59 ⟨by omega, by omega⟩) ci_X4_takeSign qm_X6_67 ⟨Nat.le_of_ble_eq_true rfl, Nat.le_of_ble_eq_true rfl⟩ ⟨Nat.le_of_ble_eq_true rfl, Nat.le_of_ble_eq_true rfl⟩ [5, 6, 7] [0, 1, 2, 3, 4] rfl rfl rfl rfl rfl (by decide) 0 rfl rfl rfl hl.1 rfl (Nat.le_of_ble_eq_true rfl) dX6_readRock_212 (fun u_97 H locs hφ hP hD hS => ?_)
                  obtain ⟨I_98, nm_99⟩ := u_97
                  obtain ⟨ah_100, b1h_100, b2h_100, b3h_100, b4h_100, b5h_100, b6h_100, b7h_100⟩ := hφ
                  dsimp only at ah_100 b1h_100 b2h_100 b3h_100 b4h_100 b5h_100 b6h_100 b7h_100
                  refine W.eq (g2 := F0 m 215 ls [.int (iZ (I_98 0))]) rfl ?_
                  rcases (show ((I_98 0) = 0) ∨ ((I_98 0) = 1) from (by omega)) with s_101 | s_101
                  ·
                    rw [s_101]
                    refine lv_if_ne (tgt := 220) hx hb dX6_readRock_215 (by decide) (fun c => absurd (by decide) c) (fun _ => ?_)
                    refine lv_iconst (v := iZ 0) hx hb dX6_readRock_218 (by decide) ?_
                    exact EWz hx hb hr hlocks hS (fun i => [0, (I_98 1), (I_98 2), (I_98 3), (I_98 4), (I_98 5), (I_98 6), (I_98 7), (I_98 8), (I_98 9), n, z_94].getD i 0, fun i => [0, nm_99].getD i 0, fun i => [(F_59 0)].getD i (fun _ => 0), fun i => [(G_10 0)].getD i (fun _ => 0)) rfl rfl ⟨(show (0 ≤ (I_98 1) ∧ (I_98 1) ≤ 900) ∧ (0 ≤ (I_98 2) ∧ (I_98 2) ≤ 900) ∧ (0 ≤ (I_98 3) ∧ (I_98 3) ≤ (I_98 4)) ∧ ((I_98 4) ≤ (I_98 2)) ∧ (0 ≤ (I_98 5) ∧ (I_98 5) ≤ 4) ∧ (-2147483648 ≤ (I_98 6) ∧ (I_98 6) < 2147483648) ∧ (-1 ≤ (I_98 7) ∧ (I_98 7) ≤ 24) from (by first | with_reducible assumption | exact ⟨⟨by omega, by omega⟩, ⟨by omega, by omega⟩, ⟨by omega, by omega⟩, by omega, ⟨by omega, by omega⟩, ⟨by omega, by omega⟩, by omega, by omega⟩)), (show (I_98 1) = tp from (by omega)), (show -2147483648 ≤ z_94 ∧ z_94 < 2147483648 from ⟨by omega, by omega⟩), (show 0 = 0 ∨ (0 = 1 ∧ (0 ≤ n ∧ n ≤ 6) ∧ SKZ (F_59 0) n) from (Or.inl rfl))⟩ (hP.sub [0, 5, 6, 7, 1, 2, 3, 4] rfl) (hD.sub [0, 5, 6, 7, 1, 2, 3, 4] rfl rfl) dX6_readRock_219
                  ·
                    rw [s_101]
                    refine lv_if_ne (tgt := 220) hx hb dX6_readRock_215 (by decide) (fun _ => ?_) (fun c => absurd c (by decide))
                    refine lv_aload_n hx hb dX6_readRock_220 rfl (lv_at hl 2 rfl) ?_
                    refine va_get (D := D) (ci := 6) (v := .ref hs) (C := RX6) (T := TX6) (N := 3) hx hb hts iX6 hown hK hP 0 rfl rfl 1 (by decide) (hts _ qf_X6_15) (fun _ h => h) rfl dX6_readRock_221 ?_
                    refine lv_dup hx hb dX6_readRock_224 rfl ?_
                    refine va_get (D := D) (ci := 5) (v := .int (iZ n)) (C := RX5) (T := TX5) (N := 7) hx hb hts iX5 hown hK hP 1 rfl rfl 3 (by decide) (hts _ qf_X6_51) (fun _ h => h) rfl dX6_readRock_225 ?_
                    refine lv_iconst (v := iZ 1) hx hb dX6_readRock_228 (by decide) ?_
                    refine lv_iadd hx hb dX6_readRock_229 ?_
                    refine lv_topi (fun x_104 ex_104 => ?_)
                    obtain rfl : x_104 = iZ (n + 1) := ex_104.trans (iZ_add n 1)
                    refine va_put (D := D) (ci := 5) (v := .int (iZ (n + 1))) (ty := .int) (C := RX5) (T := TX5) (N := 7) hx hb hts iX5 tyX5 tyX5_ok nmX5 hown hK hP hD hS 1 rfl rfl 3 (by decide) (hts _ qf_X6_51) (fun _ h => h) rfl (by decide +kernel) rfl rfl (Nat.le_of_ble_eq_true rfl) dX6_readRock_230 (fun H locs hP hD hS => ?_)
                    refine lv_iconst (v := iZ 1) hx hb dX6_readRock_233 (by decide) ?_
                    exact EWz hx hb hr hlocks hS (fun i => [1, (I_98 1), (I_98 2), (I_98 3), (I_98 4), (I_98 5), (I_98 6), (I_98 7), (I_98 8), (I_98 9), (n + 1), z_94].getD i 0, fun i => [0, nm_99].getD i 0, fun i => [(F_59 0)].getD i (fun _ => 0), fun i => [(G_10 0)].getD i (fun _ => 0)) rfl rfl ⟨(show (0 ≤ (I_98 1) ∧ (I_98 1) ≤ 900) ∧ (0 ≤ (I_98 2) ∧ (I_98 2) ≤ 900) ∧ (0 ≤ (I_98 3) ∧ (I_98 3) ≤ (I_98 4)) ∧ ((I_98 4) ≤ (I_98 2)) ∧ (0 ≤ (I_98 5) ∧ (I_98 5) ≤ 4) ∧ (-2147483648 ≤ (I_98 6) ∧ (I_98 6) < 2147483648) ∧ (-1 ≤ (I_98 7) ∧ (I_98 7) ≤ 24) from (by first | with_reducible assumption | exact ⟨⟨by omega, by omega⟩, ⟨by omega, by omega⟩, ⟨by omega, by omega⟩, by omega, ⟨by omega, by omega⟩, ⟨by omega, by omega⟩, by omega, by omega⟩)), (show (I_98 1) = tp from (by omega)), (show -2147483648 ≤ z_94 ∧ z_94 < 2147483648 from ⟨by omega, by omega⟩), (show 1 = 0 ∨ (1 = 1 ∧ (0 ≤ (n + 1) ∧ (n + 1) ≤ 6) ∧ SKZ (F_59 0) (n + 1)) from (Or.inr ⟨rfl, ⟨by omega, SKR.skz sk_71 ⟨by omega, by omega⟩⟩⟩))⟩ (hP.sub [0, 5, 6, 7, 1, 2, 3, 4] rfl) (hD.sub [0, 5, 6, 7, 1, 2, 3, 4] rfl rfl) dX6_readRock_234
              ·
                have c_76 := (zeq (x := iZ (I_57 7)) (y := iZ 5) rfl rfl ⟨by omega, by omega⟩ ⟨by omega, by omega⟩).mp c_76
                refine lv_aload_n hx hb dX6_readRock_127 rfl (lv_at hl 2 rfl) ?_
                refine lv_iconst (v := iZ 5) hx hb dX6_readRock_128 (by decide) ?_
                refine lv_iconst (v := iZ 4) hx hb dX6_readRock_129 (by decide) ?_
                refine lv_iconst (v := iZ 0) hx hb dX6_readRock_130 (by decide) ?_
                refine lv_bipush (v := iZ 99) hx hb dX6_readRock_131 (by decide) ?_
                refine CWV (As := [.int (iZ 5), .int (iZ 4), .int (iZ 0), .int (iZ 99)]) (rest := []) (wc := [(hq, .inr (6, [.ref hr1, .ref hs, .int (iZ lt)])), (hr1, .inr (4, [.ref tx, .ref kw, .int (iZ (I_57 1)), .int (iZ (I_57 2)), .int (iZ (I_57 3)), .int (iZ (I_57 4)), .int (iZ (I_57 5)), .int (iZ (I_57 6)), .int (iZ (I_57 7)), .long (L_58 1), .int (iZ (I_57 8)), .int (iZ (I_57 9))])), (tx, .inl (k 0, 900, .inl bf)), (kw, .inl (k 2, 25, .inr (.inl kwf))), (hs, .inr (5, [.ref hN, .ref hf, .ref hg, .int (iZ n), .int (iZ ni), .int (iZ lw), .int (iZ we)])), (hN, .inl (k 2, 6, .inr (.inl (G_10 0)))), (hf, .inl (k 1, 36, .inl (F_59 0))), (hg, .inl (k 1, 32, .inl g))]) (wr := []) hx hb hml hown hts hKK hP hD hS hA (k_readFact l D k hq hr1 tx kw lt (I_57 1) (I_57 2) (I_57 3) (I_57 4) (I_57 5) (I_57 6) (I_57 7) (I_57 8) (I_57 9) (L_58 1) bf kwf hs hN hf hg n ni lw we (G_10 0) (F_59 0) g 5 4 0 99 (by first | with_reducible assumption | exact ⟨⟨by omega, by omega⟩, ⟨by omega, by omega⟩, ⟨by omega, by omega⟩, by omega, ⟨by omega, by omega⟩, ⟨by omega, by omega⟩, by omega, by omega⟩) ⟨by omega, by omega⟩ ⟨by omega, by omega⟩ ⟨by omega, by omega⟩ ⟨by omega, by omega⟩ ⟨by omega, by omega⟩) ci_X6_readFact qm_X6_60 ⟨Nat.le_of_ble_eq_true rfl, Nat.le_of_ble_eq_true rfl⟩ ⟨Nat.le_of_ble_eq_true rfl, Nat.le_of_ble_eq_true rfl⟩ [0, 1, 2, 3, 4, 5, 6, 7] [] rfl rfl rfl rfl rfl (by decide) 0 rfl rfl rfl hl.1 rfl (Nat.le_of_ble_eq_true rfl) dX6_readRock_133 (fun u_105 H locs hφ hP hD hS => ?_)
                obtain ⟨I_106, L_107, F_108, G_109⟩ := u_105
                obtain ⟨p_111, p_112, p_113⟩ : ((0 ≤ (I_106 1) ∧ (I_106 1) ≤ 900) ∧ (0 ≤ (I_106 2) ∧ (I_106 2) ≤ 900) ∧ (0 ≤ (I_106 3) ∧ (I_106 3) ≤ (I_106 4)) ∧ ((I_106 4) ≤ (I_106 2)) ∧ (0 ≤ (I_106 5) ∧ (I_106 5) ≤ 4) ∧ (-2147483648 ≤ (I_106 6) ∧ (I_106 6) < 2147483648) ∧ (-1 ≤ (I_106 7) ∧ (I_106 7) ≤ 24)) ∧ ((I_106 1) = (I_57 1)) ∧ ((I_106 0) = 0 ∨ ((I_106 0) = 1 ∧ ∃ v6 : Int, 0 ≤ v6 ∧ v6 ≤ 99 ∧ (F_108 0) = upd (F_59 0) (iZ ((n * 6) + 4)).toNatClampNeg (iZ v6))) := hφ
                refine W.eq (g2 := F0 m 136 ls [.int (iZ (I_106 0))]) rfl ?_
                rcases p_113 with qt_114 | ⟨qt_114, vt_114, g1t_114, g2t_114, ht_114⟩
                ·
                  rw [qt_114]
                  refine lv_istore_n (lv' := [(2, .int (iZ 0)), (1, .int (iZ n)), (0, .ref hq)]) hx hb dX6_readRock_136 rfl hl (by decide) rfl (fun ls hl => ?_)
                  refine lv_iload_n hx hb dX6_readRock_137 rfl (lv_at hl 0 rfl) ?_
                  refine lv_if_eq (tgt := 164) hx hb dX6_readRock_138 (by decide) (fun _ => ?_) (fun c => absurd (by decide) c)
                  refine lv_iload_n hx hb dX6_readRock_164 rfl (lv_at hl 0 rfl) ?_
                  refine lv_if_eq (tgt := 202) hx hb dX6_readRock_165 (by decide) (fun _ => ?_) (fun c => absurd (by decide) c)
                  refine lv_iload_n hx hb dX6_readRock_202 rfl (lv_at hl 0 rfl) ?_
                  refine lv_if_eq (tgt := 218) hx hb dX6_readRock_203 (by decide) (fun _ => ?_) (fun c => absurd (by decide) c)
                  refine lv_iconst (v := iZ 0) hx hb dX6_readRock_218 (by decide) ?_
                  exact EWz hx hb hr hlocks hS (fun i => [0, (I_106 1), (I_106 2), (I_106 3), (I_106 4), (I_106 5), (I_106 6), (I_106 7), (I_106 8), (I_106 9), n, we].getD i 0, fun i => [0, (L_107 1)].getD i 0, fun i => [(F_108 0)].getD i (fun _ => 0), fun i => [(G_10 0)].getD i (fun _ => 0)) rfl rfl ⟨(show (0 ≤ (I_106 1) ∧ (I_106 1) ≤ 900) ∧ (0 ≤ (I_106 2) ∧ (I_106 2) ≤ 900) ∧ (0 ≤ (I_106 3) ∧ (I_106 3) ≤ (I_106 4)) ∧ ((I_106 4) ≤ (I_106 2)) ∧ (0 ≤ (I_106 5) ∧ (I_106 5) ≤ 4) ∧ (-2147483648 ≤ (I_106 6) ∧ (I_106 6) < 2147483648) ∧ (-1 ≤ (I_106 7) ∧ (I_106 7) ≤ 24) from (by first | with_reducible assumption | exact ⟨⟨by omega, by omega⟩, ⟨by omega, by omega⟩, ⟨by omega, by omega⟩, by omega, ⟨by omega, by omega⟩, ⟨by omega, by omega⟩, by omega, by omega⟩)), (show (I_106 1) = tp from (by omega)), (show -2147483648 ≤ we ∧ we < 2147483648 from ⟨by omega, by omega⟩), (show 0 = 0 ∨ (0 = 1 ∧ (0 ≤ n ∧ n ≤ 6) ∧ SKZ (F_108 0) n) from (Or.inl rfl))⟩ (hP.sub [0, 1, 2, 3, 4, 5, 6, 7] rfl) (hD.sub [0, 1, 2, 3, 4, 5, 6, 7] rfl rfl) dX6_readRock_219
                ·
                  rw [qt_114]
                  have sk_118 : SKR _ n 1 := SKR.up (w := 4) sk_71 ht_114 ⟨by omega, by omega⟩ (by omega)
                  refine lv_istore_n (lv' := [(2, .int (iZ 1)), (1, .int (iZ n)), (0, .ref hq)]) hx hb dX6_readRock_136 rfl hl (by decide) rfl (fun ls hl => ?_)
                  refine lv_iload_n hx hb dX6_readRock_137 rfl (lv_at hl 0 rfl) ?_
                  refine lv_if_eq (tgt := 164) hx hb dX6_readRock_138 (by decide) (fun c => absurd c (by decide)) (fun _ => ?_)
                  refine lv_aload_n hx hb dX6_readRock_141 rfl (lv_at hl 2 rfl) ?_
                  refine va_get (D := D) (ci := 6) (v := .ref hr1) (C := RX6) (T := TX6) (N := 3) hx hb hts iX6 hown hK hP 0 rfl rfl 0 (by decide) (hts _ qf_X6_9) (fun _ h => h) rfl dX6_readRock_142 ?_
                  refine va_get (D := D) (ci := 4) (v := .int (iZ (I_106 7))) (C := RX4) (T := TX4) (N := 12) hx hb hts iX4 hown hK hP 1 rfl rfl 8 (by decide) (hts _ qf_X6_34) (fun _ h => h) rfl dX6_readRock_145 ?_
                  refine lv_bipush (v := iZ 6) hx hb dX6_readRock_148 (by decide) ?_
                  refine lv_icmp_ne (tgt := 164) hx hb dX6_readRock_150 (by decide) (fun c_120 => ?_) (fun c_120 => ?_)
                  ·
                    have c_120 := mt (zeq (x := iZ (I_106 7)) (y := iZ 6) rfl rfl ⟨by omega, by omega⟩ ⟨by omega, by omega⟩).mpr c_120
                    refine lv_iload_n hx hb dX6_readRock_164 rfl (lv_at hl 0 rfl) ?_
                    refine lv_if_eq (tgt := 202) hx hb dX6_readRock_165 (by decide) (fun c => absurd c (by decide)) (fun _ => ?_)
                    refine lv_aload_n hx hb dX6_readRock_168 rfl (lv_at hl 2 rfl) ?_
                    refine va_get (D := D) (ci := 6) (v := .ref hr1) (C := RX6) (T := TX6) (N := 3) hx hb hts iX6 hown hK hP 0 rfl rfl 0 (by decide) (hts _ qf_X6_9) (fun _ h => h) rfl dX6_readRock_169 ?_
                    refine va_get (D := D) (ci := 4) (v := .int (iZ (I_106 7))) (C := RX4) (T := TX4) (N := 12) hx hb hts iX4 hown hK hP 1 rfl rfl 8 (by decide) (hts _ qf_X6_34) (fun _ h => h) rfl dX6_readRock_172 ?_
                    refine lv_bipush (v := iZ 7) hx hb dX6_readRock_175 (by decide) ?_
                    refine lv_icmp_ne (tgt := 202) hx hb dX6_readRock_177 (by decide) (fun c_122 => ?_) (fun c_122 => ?_)
                    ·
                      have c_122 := mt (zeq (x := iZ (I_106 7)) (y := iZ 7) rfl rfl ⟨by omega, by omega⟩ ⟨by omega, by omega⟩).mpr c_122
                      refine lv_iload_n hx hb dX6_readRock_202 rfl (lv_at hl 0 rfl) ?_
                      refine lv_if_eq (tgt := 218) hx hb dX6_readRock_203 (by decide) (fun c => absurd c (by decide)) (fun _ => ?_)
                      refine lv_aload_n hx hb dX6_readRock_206 rfl (lv_at hl 2 rfl) ?_
                      refine va_get (D := D) (ci := 6) (v := .ref hr1) (C := RX6) (T := TX6) (N := 3) hx hb hts iX6 hown hK hP 0 rfl rfl 0 (by decide) (hts _ qf_X6_9) (fun _ h => h) rfl dX6_readRock_207 ?_
                      refine lv_bipush (v := iZ 59) hx hb dX6_readRock_210 (by decide) ?_
                      refine CWV (As := [.int (iZ 59)]) (rest := []) (wc := [(hr1, .inr (4, [.ref tx, .ref kw, .int (iZ (I_106 1)), .int (iZ (I_106 2)), .int (iZ (I_106 3)), .int (iZ (I_106 4)), .int (iZ (I_106 5)), .int (iZ (I_106 6)), .int (iZ (I_106 7)), .long (L_107 1), .int (iZ (I_106 8)), .int (iZ (I_106 9))])), (tx, .inl (k 0, 900, .inl bf)), (kw, .inl (k 2, 25, .inr (.inl kwf)))]) (wr := [(hq, .inr (6, [.ref hr1, .ref hs, .int (iZ lt)])), (hs, .inr (5, [.ref hN, .ref hf, .ref hg, .int (iZ n), .int (iZ ni), .int (iZ lw), .int (iZ we)])), (hN, .inl (k 2, 6, .inr (.inl (G_10 0)))), (hf, .inl (k 1, 36, .inl (F_108 0))), (hg, .inl (k 1, 32, .inl g))]) hx hb hml hown hts hKK hP hD hS hA (k_takeSign l D k hr1 tx kw bf kwf (I_106 1) (I_106 2) (I_106 3) (I_106 4) (I_106 5) (I_106 6) (I_106 7) (I_106 8) (I_106 9) (L_107 1) (show RDI _ from (show (0 ≤ (I_106 1) ∧ (I_106 1) ≤ 900) ∧ (0 ≤ (I_106 2) ∧ (I_106 2) ≤ 900) ∧ (0 ≤ (I_106 3) ∧ (I_106 3) ≤ (I_106 4)) ∧ ((I_106 4) ≤ (I_106 2)) ∧ (0 ≤ (I_106 5) ∧ (I_106 5) ≤ 4) ∧ (-2147483648 ≤ (I_106 6) ∧ (I_106 6) < 2147483648) ∧ (-1 ≤ (I_106 7) ∧ (I_106 7) ≤ 24) from ⟨⟨by omega, by omega⟩, ⟨by omega, by omega⟩, ⟨by omega, by omega⟩, by omega, ⟨by omega, by omega⟩, ⟨by omega, by omega⟩, by omega, by omega⟩)) 59 ⟨by omega, by omega⟩) ci_X4_takeSign qm_X6_67 ⟨Nat.le_of_ble_eq_true rfl, Nat.le_of_ble_eq_true rfl⟩ ⟨Nat.le_of_ble_eq_true rfl, Nat.le_of_ble_eq_true rfl⟩ [1, 2, 3] [0, 4, 5, 6, 7] rfl rfl rfl rfl rfl (by decide) 0 rfl rfl rfl hl.1 rfl (Nat.le_of_ble_eq_true rfl) dX6_readRock_212 (fun u_124 H locs hφ hP hD hS => ?_)
                      obtain ⟨I_125, nm_126⟩ := u_124
                      obtain ⟨ah_127, b1h_127, b2h_127, b3h_127, b4h_127, b5h_127, b6h_127, b7h_127⟩ := hφ
                      dsimp only at ah_127 b1h_127 b2h_127 b3h_127 b4h_127 b5h_127 b6h_127 b7h_127
                      refine W.eq (g2 := F0 m 215 ls [.int (iZ (I_125 0))]) rfl ?_
                      rcases (show ((I_125 0) = 0) ∨ ((I_125 0) = 1) from (by omega)) with s_128 | s_128
                      ·
                        rw [s_128]
                        refine lv_if_ne (tgt := 220) hx hb dX6_readRock_215 (by decide) (fun c => absurd (by decide) c) (fun _ => ?_)
                        refine lv_iconst (v := iZ 0) hx hb dX6_readRock_218 (by decide) ?_
                        exact EWz hx hb hr hlocks hS (fun i => [0, (I_125 1), (I_125 2), (I_125 3), (I_125 4), (I_125 5), (I_125 6), (I_125 7), (I_125 8), (I_125 9), n, we].getD i 0, fun i => [0, nm_126].getD i 0, fun i => [(F_108 0)].getD i (fun _ => 0), fun i => [(G_10 0)].getD i (fun _ => 0)) rfl rfl ⟨(show (0 ≤ (I_125 1) ∧ (I_125 1) ≤ 900) ∧ (0 ≤ (I_125 2) ∧ (I_125 2) ≤ 900) ∧ (0 ≤ (I_125 3) ∧ (I_125 3) ≤ (I_125 4)) ∧ ((I_125 4) ≤ (I_125 2)) ∧ (0 ≤ (I_125 5) ∧ (I_125 5) ≤ 4) ∧ (-2147483648 ≤ (I_125 6) ∧ (I_125 6) < 2147483648) ∧ (-1 ≤ (I_125 7) ∧ (I_125 7) ≤ 24) from (by first | with_reducible assumption | exact ⟨⟨by omega, by omega⟩, ⟨by omega, by omega⟩, ⟨by omega, by omega⟩, by omega, ⟨by omega, by omega⟩, ⟨by omega, by omega⟩, by omega, by omega⟩)), (show (I_125 1) = tp from (by omega)), (show -2147483648 ≤ we ∧ we < 2147483648 from ⟨by omega, by omega⟩), (show 0 = 0 ∨ (0 = 1 ∧ (0 ≤ n ∧ n ≤ 6) ∧ SKZ (F_108 0) n) from (Or.inl rfl))⟩ (hP.sub [0, 5, 6, 7, 1, 2, 3, 4] rfl) (hD.sub [0, 5, 6, 7, 1, 2, 3, 4] rfl rfl) dX6_readRock_219
                      ·
                        rw [s_128]
                        refine lv_if_ne (tgt := 220) hx hb dX6_readRock_215 (by decide) (fun _ => ?_) (fun c => absurd c (by decide))
                        refine lv_aload_n hx hb dX6_readRock_220 rfl (lv_at hl 2 rfl) ?_
                        refine va_get (D := D) (ci := 6) (v := .ref hs) (C := RX6) (T := TX6) (N := 3) hx hb hts iX6 hown hK hP 0 rfl rfl 1 (by decide) (hts _ qf_X6_15) (fun _ h => h) rfl dX6_readRock_221 ?_
                        refine lv_dup hx hb dX6_readRock_224 rfl ?_
                        refine va_get (D := D) (ci := 5) (v := .int (iZ n)) (C := RX5) (T := TX5) (N := 7) hx hb hts iX5 hown hK hP 1 rfl rfl 3 (by decide) (hts _ qf_X6_51) (fun _ h => h) rfl dX6_readRock_225 ?_
                        refine lv_iconst (v := iZ 1) hx hb dX6_readRock_228 (by decide) ?_
                        refine lv_iadd hx hb dX6_readRock_229 ?_
                        refine lv_topi (fun x_131 ex_131 => ?_)
                        obtain rfl : x_131 = iZ (n + 1) := ex_131.trans (iZ_add n 1)
                        refine va_put (D := D) (ci := 5) (v := .int (iZ (n + 1))) (ty := .int) (C := RX5) (T := TX5) (N := 7) hx hb hts iX5 tyX5 tyX5_ok nmX5 hown hK hP hD hS 1 rfl rfl 3 (by decide) (hts _ qf_X6_51) (fun _ h => h) rfl (by decide +kernel) rfl rfl (Nat.le_of_ble_eq_true rfl) dX6_readRock_230 (fun H locs hP hD hS => ?_)
                        refine lv_iconst (v := iZ 1) hx hb dX6_readRock_233 (by decide) ?_
                        exact EWz hx hb hr hlocks hS (fun i => [1, (I_125 1), (I_125 2), (I_125 3), (I_125 4), (I_125 5), (I_125 6), (I_125 7), (I_125 8), (I_125 9), (n + 1), we].getD i 0, fun i => [0, nm_126].getD i 0, fun i => [(F_108 0)].getD i (fun _ => 0), fun i => [(G_10 0)].getD i (fun _ => 0)) rfl rfl ⟨(show (0 ≤ (I_125 1) ∧ (I_125 1) ≤ 900) ∧ (0 ≤ (I_125 2) ∧ (I_125 2) ≤ 900) ∧ (0 ≤ (I_125 3) ∧ (I_125 3) ≤ (I_125 4)) ∧ ((I_125 4) ≤ (I_125 2)) ∧ (0 ≤ (I_125 5) ∧ (I_125 5) ≤ 4) ∧ (-2147483648 ≤ (I_125 6) ∧ (I_125 6) < 2147483648) ∧ (-1 ≤ (I_125 7) ∧ (I_125 7) ≤ 24) from (by first | with_reducible assumption | exact ⟨⟨by omega, by omega⟩, ⟨by omega, by omega⟩, ⟨by omega, by omega⟩, by omega, ⟨by omega, by omega⟩, ⟨by omega, by omega⟩, by omega, by omega⟩)), (show (I_125 1) = tp from (by omega)), (show -2147483648 ≤ we ∧ we < 2147483648 from ⟨by omega, by omega⟩), (show 1 = 0 ∨ (1 = 1 ∧ (0 ≤ (n + 1) ∧ (n + 1) ≤ 6) ∧ SKZ (F_108 0) (n + 1)) from (Or.inr ⟨rfl, ⟨by omega, SKR.skz sk_118 ⟨by omega, by omega⟩⟩⟩))⟩ (hP.sub [0, 5, 6, 7, 1, 2, 3, 4] rfl) (hD.sub [0, 5, 6, 7, 1, 2, 3, 4] rfl rfl) dX6_readRock_234
                    ·
                      have c_122 := (zeq (x := iZ (I_106 7)) (y := iZ 7) rfl rfl ⟨by omega, by omega⟩ ⟨by omega, by omega⟩).mp c_122
                      refine lv_aload_n hx hb dX6_readRock_180 rfl (lv_at hl 2 rfl) ?_
                      refine va_get (D := D) (ci := 6) (v := .ref hr1) (C := RX6) (T := TX6) (N := 3) hx hb hts iX6 hown hK hP 0 rfl rfl 0 (by decide) (hts _ qf_X6_9) (fun _ h => h) rfl dX6_readRock_181 ?_
                      refine CWV (As := []) (rest := []) (wc := [(hr1, .inr (4, [.ref tx, .ref kw, .int (iZ (I_106 1)), .int (iZ (I_106 2)), .int (iZ (I_106 3)), .int (iZ (I_106 4)), .int (iZ (I_106 5)), .int (iZ (I_106 6)), .int (iZ (I_106 7)), .long (L_107 1), .int (iZ (I_106 8)), .int (iZ (I_106 9))])), (tx, .inl (k 0, 900, .inl bf)), (kw, .inl (k 2, 25, .inr (.inl kwf)))]) (wr := [(hq, .inr (6, [.ref hr1, .ref hs, .int (iZ lt)])), (hs, .inr (5, [.ref hN, .ref hf, .ref hg, .int (iZ n), .int (iZ ni), .int (iZ lw), .int (iZ we)])), (hN, .inl (k 2, 6, .inr (.inl (G_10 0)))), (hf, .inl (k 1, 36, .inl (F_108 0))), (hg, .inl (k 1, 32, .inl g))]) hx hb hml hown hts hKK hP hD hS hA (k_next l D k hr1 tx kw bf kwf (I_106 1) (I_106 2) (I_106 3) (I_106 4) (I_106 5) (I_106 6) (I_106 7) (I_106 8) (I_106 9) (L_107 1) (show RDI _ from (show (0 ≤ (I_106 1) ∧ (I_106 1) ≤ 900) ∧ (0 ≤ (I_106 2) ∧ (I_106 2) ≤ 900) ∧ (0 ≤ (I_106 4) ∧ (I_106 4) ≤ (I_106 4)) ∧ ((I_106 4) ≤ (I_106 2)) ∧ (0 ≤ (I_106 5) ∧ (I_106 5) ≤ 4) ∧ (-2147483648 ≤ (0 : Int) ∧ (0 : Int) < 2147483648) ∧ (-1 ≤ (-1 : Int) ∧ (-1 : Int) ≤ 24) from ⟨⟨by omega, by omega⟩, ⟨by omega, by omega⟩, ⟨by omega, by omega⟩, by omega, ⟨by omega, by omega⟩, ⟨by omega, by omega⟩, by omega, by omega⟩))) ci_X4_next qm_X6_54 ⟨Nat.le_of_ble_eq_true rfl, Nat.le_of_ble_eq_true rfl⟩ ⟨Nat.le_of_ble_eq_true rfl, Nat.le_of_ble_eq_true rfl⟩ [1, 2, 3] [0, 4, 5, 6, 7] rfl rfl rfl rfl rfl (by decide) 0 rfl rfl rfl hl.1 rfl (Nat.le_of_ble_eq_true rfl) dX6_readRock_184 (fun u_132 H locs hφ hP hD hS => ?_)
                      obtain ⟨I_133, nm_134⟩ := u_132
                      obtain ⟨ah_135, b1h_135, b2h_135, b3h_135, b4h_135, b5h_135, b6h_135, b7h_135⟩ := hφ
                      dsimp only at ah_135 b1h_135 b2h_135 b3h_135 b4h_135 b5h_135 b6h_135 b7h_135
                      refine W.eq (g2 := F0 m 187 ls []) rfl ?_
                      refine lv_aload_n hx hb dX6_readRock_187 rfl (lv_at hl 2 rfl) ?_
                      refine va_get (D := D) (ci := 6) (v := .ref hs) (C := RX6) (T := TX6) (N := 3) hx hb hts iX6 hown hK hP 0 rfl rfl 1 (by decide) (hts _ qf_X6_15) (fun _ h => h) rfl dX6_readRock_188 ?_
                      refine lv_dup hx hb dX6_readRock_191 rfl ?_
                      refine va_get (D := D) (ci := 5) (v := .int (iZ we)) (C := RX5) (T := TX5) (N := 7) hx hb hts iX5 hown hK hP 1 rfl rfl 6 (by decide) (hts _ qf_X6_64) (fun _ h => h) rfl dX6_readRock_192 ?_
                      refine lv_iconst (v := iZ 1) hx hb dX6_readRock_195 (by decide) ?_
                      refine lv_iload_n hx hb dX6_readRock_196 rfl (lv_at hl 1 rfl) ?_
                      refine lv_ishl hx hb dX6_readRock_197 ?_
                      refine lv_topi (fun x_137 ex_137 => ?_)
                      obtain ⟨z_136, hz_136, hz_136a, hz_136b⟩ := i32_z x_137
                      subst hz_136
                      refine lv_ior hx hb dX6_readRock_198 ?_
                      refine lv_topi (fun x_139 ex_139 => ?_)
                      obtain ⟨z_138, hz_138, hz_138a, hz_138b⟩ := i32_z x_139
                      subst hz_138
                      refine va_put (D := D) (ci := 5) (v := .int (iZ z_138)) (ty := .int) (C := RX5) (T := TX5) (N := 7) hx hb hts iX5 tyX5 tyX5_ok nmX5 hown hK hP hD hS 1 rfl rfl 6 (by decide) (hts _ qf_X6_64) (fun _ h => h) rfl (by decide +kernel) rfl rfl (Nat.le_of_ble_eq_true rfl) dX6_readRock_199 (fun H locs hP hD hS => ?_)
                      refine lv_iload_n hx hb dX6_readRock_202 rfl (lv_at hl 0 rfl) ?_
                      refine lv_if_eq (tgt := 218) hx hb dX6_readRock_203 (by decide) (fun c => absurd c (by decide)) (fun _ => ?_)
                      refine lv_aload_n hx hb dX6_readRock_206 rfl (lv_at hl 2 rfl) ?_
                      refine va_get (D := D) (ci := 6) (v := .ref hr1) (C := RX6) (T := TX6) (N := 3) hx hb hts iX6 hown hK hP 0 rfl rfl 0 (by decide) (hts _ qf_X6_9) (fun _ h => h) rfl dX6_readRock_207 ?_
                      refine lv_bipush (v := iZ 59) hx hb dX6_readRock_210 (by decide) ?_
                      refine CWV (As := [.int (iZ 59)]) (rest := []) (wc := [(hr1, .inr (4, [.ref tx, .ref kw, .int (iZ (I_133 1)), .int (iZ (I_133 2)), .int (iZ (I_133 3)), .int (iZ (I_133 4)), .int (iZ (I_133 5)), .int (iZ (I_133 6)), .int (iZ (I_133 7)), .long nm_134, .int (iZ (I_133 8)), .int (iZ (I_133 9))])), (tx, .inl (k 0, 900, .inl bf)), (kw, .inl (k 2, 25, .inr (.inl kwf)))]) (wr := [(hq, .inr (6, [.ref hr1, .ref hs, .int (iZ lt)])), (hs, .inr (5, [.ref hN, .ref hf, .ref hg, .int (iZ n), .int (iZ ni), .int (iZ lw), .int (iZ z_138)])), (hN, .inl (k 2, 6, .inr (.inl (G_10 0)))), (hf, .inl (k 1, 36, .inl (F_108 0))), (hg, .inl (k 1, 32, .inl g))]) hx hb hml hown hts hKK hP hD hS hA (k_takeSign l D k hr1 tx kw bf kwf (I_133 1) (I_133 2) (I_133 3) (I_133 4) (I_133 5) (I_133 6) (I_133 7) (I_133 8) (I_133 9) nm_134 (show RDI _ from (show (0 ≤ (I_133 1) ∧ (I_133 1) ≤ 900) ∧ (0 ≤ (I_133 2) ∧ (I_133 2) ≤ 900) ∧ (0 ≤ (I_133 3) ∧ (I_133 3) ≤ (I_133 4)) ∧ ((I_133 4) ≤ (I_133 2)) ∧ (0 ≤ (I_133 5) ∧ (I_133 5) ≤ 4) ∧ (-2147483648 ≤ (I_133 6) ∧ (I_133 6) < 2147483648) ∧ (-1 ≤ (I_133 7) ∧ (I_133 7) ≤ 24) from ⟨⟨by omega, by omega⟩, ⟨by omega, by omega⟩, ⟨by omega, by omega⟩, by omega, ⟨by omega, by omega⟩, ⟨by omega, by omega⟩, by omega, by omega⟩)) 59 ⟨by omega, by omega⟩) ci_X4_takeSign qm_X6_67 ⟨Nat.le_of_ble_eq_true rfl, Nat.le_of_ble_eq_true rfl⟩ ⟨Nat.le_of_ble_eq_true rfl, Nat.le_of_ble_eq_true rfl⟩ [5, 6, 7] [0, 1, 2, 3, 4] rfl rfl rfl rfl rfl (by decide) 0 rfl rfl rfl hl.1 rfl (Nat.le_of_ble_eq_true rfl) dX6_readRock_212 (fun u_141 H locs hφ hP hD hS => ?_)
                      obtain ⟨I_142, nm_143⟩ := u_141
                      obtain ⟨ah_144, b1h_144, b2h_144, b3h_144, b4h_144, b5h_144, b6h_144, b7h_144⟩ := hφ
                      dsimp only at ah_144 b1h_144 b2h_144 b3h_144 b4h_144 b5h_144 b6h_144 b7h_144
                      refine W.eq (g2 := F0 m 215 ls [.int (iZ (I_142 0))]) rfl ?_
                      rcases (show ((I_142 0) = 0) ∨ ((I_142 0) = 1) from (by omega)) with s_145 | s_145
                      ·
                        rw [s_145]
                        refine lv_if_ne (tgt := 220) hx hb dX6_readRock_215 (by decide) (fun c => absurd (by decide) c) (fun _ => ?_)
                        refine lv_iconst (v := iZ 0) hx hb dX6_readRock_218 (by decide) ?_
                        exact EWz hx hb hr hlocks hS (fun i => [0, (I_142 1), (I_142 2), (I_142 3), (I_142 4), (I_142 5), (I_142 6), (I_142 7), (I_142 8), (I_142 9), n, z_138].getD i 0, fun i => [0, nm_143].getD i 0, fun i => [(F_108 0)].getD i (fun _ => 0), fun i => [(G_10 0)].getD i (fun _ => 0)) rfl rfl ⟨(show (0 ≤ (I_142 1) ∧ (I_142 1) ≤ 900) ∧ (0 ≤ (I_142 2) ∧ (I_142 2) ≤ 900) ∧ (0 ≤ (I_142 3) ∧ (I_142 3) ≤ (I_142 4)) ∧ ((I_142 4) ≤ (I_142 2)) ∧ (0 ≤ (I_142 5) ∧ (I_142 5) ≤ 4) ∧ (-2147483648 ≤ (I_142 6) ∧ (I_142 6) < 2147483648) ∧ (-1 ≤ (I_142 7) ∧ (I_142 7) ≤ 24) from (by first | with_reducible assumption | exact ⟨⟨by omega, by omega⟩, ⟨by omega, by omega⟩, ⟨by omega, by omega⟩, by omega, ⟨by omega, by omega⟩, ⟨by omega, by omega⟩, by omega, by omega⟩)), (show (I_142 1) = tp from (by omega)), (show -2147483648 ≤ z_138 ∧ z_138 < 2147483648 from ⟨by omega, by omega⟩), (show 0 = 0 ∨ (0 = 1 ∧ (0 ≤ n ∧ n ≤ 6) ∧ SKZ (F_108 0) n) from (Or.inl rfl))⟩ (hP.sub [0, 5, 6, 7, 1, 2, 3, 4] rfl) (hD.sub [0, 5, 6, 7, 1, 2, 3, 4] rfl rfl) dX6_readRock_219
                      ·
                        rw [s_145]
                        refine lv_if_ne (tgt := 220) hx hb dX6_readRock_215 (by decide) (fun _ => ?_) (fun c => absurd c (by decide))
                        refine lv_aload_n hx hb dX6_readRock_220 rfl (lv_at hl 2 rfl) ?_
                        refine va_get (D := D) (ci := 6) (v := .ref hs) (C := RX6) (T := TX6) (N := 3) hx hb hts iX6 hown hK hP 0 rfl rfl 1 (by decide) (hts _ qf_X6_15) (fun _ h => h) rfl dX6_readRock_221 ?_
                        refine lv_dup hx hb dX6_readRock_224 rfl ?_
                        refine va_get (D := D) (ci := 5) (v := .int (iZ n)) (C := RX5) (T := TX5) (N := 7) hx hb hts iX5 hown hK hP 1 rfl rfl 3 (by decide) (hts _ qf_X6_51) (fun _ h => h) rfl dX6_readRock_225 ?_
                        refine lv_iconst (v := iZ 1) hx hb dX6_readRock_228 (by decide) ?_
                        refine lv_iadd hx hb dX6_readRock_229 ?_
                        refine lv_topi (fun x_148 ex_148 => ?_)
                        obtain rfl : x_148 = iZ (n + 1) := ex_148.trans (iZ_add n 1)
                        refine va_put (D := D) (ci := 5) (v := .int (iZ (n + 1))) (ty := .int) (C := RX5) (T := TX5) (N := 7) hx hb hts iX5 tyX5 tyX5_ok nmX5 hown hK hP hD hS 1 rfl rfl 3 (by decide) (hts _ qf_X6_51) (fun _ h => h) rfl (by decide +kernel) rfl rfl (Nat.le_of_ble_eq_true rfl) dX6_readRock_230 (fun H locs hP hD hS => ?_)
                        refine lv_iconst (v := iZ 1) hx hb dX6_readRock_233 (by decide) ?_
                        exact EWz hx hb hr hlocks hS (fun i => [1, (I_142 1), (I_142 2), (I_142 3), (I_142 4), (I_142 5), (I_142 6), (I_142 7), (I_142 8), (I_142 9), (n + 1), z_138].getD i 0, fun i => [0, nm_143].getD i 0, fun i => [(F_108 0)].getD i (fun _ => 0), fun i => [(G_10 0)].getD i (fun _ => 0)) rfl rfl ⟨(show (0 ≤ (I_142 1) ∧ (I_142 1) ≤ 900) ∧ (0 ≤ (I_142 2) ∧ (I_142 2) ≤ 900) ∧ (0 ≤ (I_142 3) ∧ (I_142 3) ≤ (I_142 4)) ∧ ((I_142 4) ≤ (I_142 2)) ∧ (0 ≤ (I_142 5) ∧ (I_142 5) ≤ 4) ∧ (-2147483648 ≤ (I_142 6) ∧ (I_142 6) < 2147483648) ∧ (-1 ≤ (I_142 7) ∧ (I_142 7) ≤ 24) from (by first | with_reducible assumption | exact ⟨⟨by omega, by omega⟩, ⟨by omega, by omega⟩, ⟨by omega, by omega⟩, by omega, ⟨by omega, by omega⟩, ⟨by omega, by omega⟩, by omega, by omega⟩)), (show (I_142 1) = tp from (by omega)), (show -2147483648 ≤ z_138 ∧ z_138 < 2147483648 from ⟨by omega, by omega⟩), (show 1 = 0 ∨ (1 = 1 ∧ (0 ≤ (n + 1) ∧ (n + 1) ≤ 6) ∧ SKZ (F_108 0) (n + 1)) from (Or.inr ⟨rfl, ⟨by omega, SKR.skz sk_118 ⟨by omega, by omega⟩⟩⟩))⟩ (hP.sub [0, 5, 6, 7, 1, 2, 3, 4] rfl) (hD.sub [0, 5, 6, 7, 1, 2, 3, 4] rfl rfl) dX6_readRock_234
                  ·
                    have c_120 := (zeq (x := iZ (I_106 7)) (y := iZ 6) rfl rfl ⟨by omega, by omega⟩ ⟨by omega, by omega⟩).mp c_120
                    refine lv_aload_n hx hb dX6_readRock_153 rfl (lv_at hl 2 rfl) ?_
                    refine lv_bipush (v := iZ 6) hx hb dX6_readRock_154 (by decide) ?_
                    refine lv_iconst (v := iZ 5) hx hb dX6_readRock_156 (by decide) ?_
                    refine lv_iconst (v := iZ 0) hx hb dX6_readRock_157 (by decide) ?_
                    refine lv_bipush (v := iZ 20) hx hb dX6_readRock_158 (by decide) ?_
                    refine CWV (As := [.int (iZ 6), .int (iZ 5), .int (iZ 0), .int (iZ 20)]) (rest := []) (wc := [(hq, .inr (6, [.ref hr1, .ref hs, .int (iZ lt)])), (hr1, .inr (4, [.ref tx, .ref kw, .int (iZ (I_106 1)), .int (iZ (I_106 2)), .int (iZ (I_106 3)), .int (iZ (I_106 4)), .int (iZ (I_106 5)), .int (iZ (I_106 6)), .int (iZ (I_106 7)), .long (L_107 1), .int (iZ (I_106 8)), .int (iZ (I_106 9))])), (tx, .inl (k 0, 900, .inl bf)), (kw, .inl (k 2, 25, .inr (.inl kwf))), (hs, .inr (5, [.ref hN, .ref hf, .ref hg, .int (iZ n), .int (iZ ni), .int (iZ lw), .int (iZ we)])), (hN, .inl (k 2, 6, .inr (.inl (G_10 0)))), (hf, .inl (k 1, 36, .inl (F_108 0))), (hg, .inl (k 1, 32, .inl g))]) (wr := []) hx hb hml hown hts hKK hP hD hS hA (k_readFact l D k hq hr1 tx kw lt (I_106 1) (I_106 2) (I_106 3) (I_106 4) (I_106 5) (I_106 6) (I_106 7) (I_106 8) (I_106 9) (L_107 1) bf kwf hs hN hf hg n ni lw we (G_10 0) (F_108 0) g 6 5 0 20 (by first | with_reducible assumption | exact ⟨⟨by omega, by omega⟩, ⟨by omega, by omega⟩, ⟨by omega, by omega⟩, by omega, ⟨by omega, by omega⟩, ⟨by omega, by omega⟩, by omega, by omega⟩) ⟨by omega, by omega⟩ ⟨by omega, by omega⟩ ⟨by omega, by omega⟩ ⟨by omega, by omega⟩ ⟨by omega, by omega⟩) ci_X6_readFact qm_X6_60 ⟨Nat.le_of_ble_eq_true rfl, Nat.le_of_ble_eq_true rfl⟩ ⟨Nat.le_of_ble_eq_true rfl, Nat.le_of_ble_eq_true rfl⟩ [0, 1, 2, 3, 4, 5, 6, 7] [] rfl rfl rfl rfl rfl (by decide) 0 rfl rfl rfl hl.1 rfl (Nat.le_of_ble_eq_true rfl) dX6_readRock_160 (fun u_149 H locs hφ hP hD hS => ?_)
                    obtain ⟨I_150, L_151, F_152, G_153⟩ := u_149
                    obtain ⟨p_155, p_156, p_157⟩ : ((0 ≤ (I_150 1) ∧ (I_150 1) ≤ 900) ∧ (0 ≤ (I_150 2) ∧ (I_150 2) ≤ 900) ∧ (0 ≤ (I_150 3) ∧ (I_150 3) ≤ (I_150 4)) ∧ ((I_150 4) ≤ (I_150 2)) ∧ (0 ≤ (I_150 5) ∧ (I_150 5) ≤ 4) ∧ (-2147483648 ≤ (I_150 6) ∧ (I_150 6) < 2147483648) ∧ (-1 ≤ (I_150 7) ∧ (I_150 7) ≤ 24)) ∧ ((I_150 1) = (I_106 1)) ∧ ((I_150 0) = 0 ∨ ((I_150 0) = 1 ∧ ∃ v6 : Int, 0 ≤ v6 ∧ v6 ≤ 20 ∧ (F_152 0) = upd (F_108 0) (iZ ((n * 6) + 5)).toNatClampNeg (iZ v6))) := hφ
                    refine W.eq (g2 := F0 m 163 ls [.int (iZ (I_150 0))]) rfl ?_
                    rcases p_157 with qt_158 | ⟨qt_158, vt_158, g1t_158, g2t_158, ht_158⟩
                    ·
                      rw [qt_158]
                      refine lv_istore_n (lv' := [(2, .int (iZ 0)), (1, .int (iZ n)), (0, .ref hq)]) hx hb dX6_readRock_163 rfl hl (by decide) rfl (fun ls hl => ?_)
                      refine lv_iload_n hx hb dX6_readRock_164 rfl (lv_at hl 0 rfl) ?_
                      refine lv_if_eq (tgt := 202) hx hb dX6_readRock_165 (by decide) (fun _ => ?_) (fun c => absurd (by decide) c)
                      refine lv_iload_n hx hb dX6_readRock_202 rfl (lv_at hl 0 rfl) ?_
                      refine lv_if_eq (tgt := 218) hx hb dX6_readRock_203 (by decide) (fun _ => ?_) (fun c => absurd (by decide) c)
                      refine lv_iconst (v := iZ 0) hx hb dX6_readRock_218 (by decide) ?_
                      exact EWz hx hb hr hlocks hS (fun i => [0, (I_150 1), (I_150 2), (I_150 3), (I_150 4), (I_150 5), (I_150 6), (I_150 7), (I_150 8), (I_150 9), n, we].getD i 0, fun i => [0, (L_151 1)].getD i 0, fun i => [(F_152 0)].getD i (fun _ => 0), fun i => [(G_10 0)].getD i (fun _ => 0)) rfl rfl ⟨(show (0 ≤ (I_150 1) ∧ (I_150 1) ≤ 900) ∧ (0 ≤ (I_150 2) ∧ (I_150 2) ≤ 900) ∧ (0 ≤ (I_150 3) ∧ (I_150 3) ≤ (I_150 4)) ∧ ((I_150 4) ≤ (I_150 2)) ∧ (0 ≤ (I_150 5) ∧ (I_150 5) ≤ 4) ∧ (-2147483648 ≤ (I_150 6) ∧ (I_150 6) < 2147483648) ∧ (-1 ≤ (I_150 7) ∧ (I_150 7) ≤ 24) from (by first | with_reducible assumption | exact ⟨⟨by omega, by omega⟩, ⟨by omega, by omega⟩, ⟨by omega, by omega⟩, by omega, ⟨by omega, by omega⟩, ⟨by omega, by omega⟩, by omega, by omega⟩)), (show (I_150 1) = tp from (by omega)), (show -2147483648 ≤ we ∧ we < 2147483648 from ⟨by omega, by omega⟩), (show 0 = 0 ∨ (0 = 1 ∧ (0 ≤ n ∧ n ≤ 6) ∧ SKZ (F_152 0) n) from (Or.inl rfl))⟩ (hP.sub [0, 1, 2, 3, 4, 5, 6, 7] rfl) (hD.sub [0, 1, 2, 3, 4, 5, 6, 7] rfl rfl) dX6_readRock_219
                    ·
                      rw [qt_158]
                      have sk_161 : SKR _ n 1 := SKR.up (w := 5) sk_118 ht_158 ⟨by omega, by omega⟩ (by omega)
                      refine lv_istore_n (lv' := [(2, .int (iZ 1)), (1, .int (iZ n)), (0, .ref hq)]) hx hb dX6_readRock_163 rfl hl (by decide) rfl (fun ls hl => ?_)
                      refine lv_iload_n hx hb dX6_readRock_164 rfl (lv_at hl 0 rfl) ?_
                      refine lv_if_eq (tgt := 202) hx hb dX6_readRock_165 (by decide) (fun c => absurd c (by decide)) (fun _ => ?_)
                      refine lv_aload_n hx hb dX6_readRock_168 rfl (lv_at hl 2 rfl) ?_
                      refine va_get (D := D) (ci := 6) (v := .ref hr1) (C := RX6) (T := TX6) (N := 3) hx hb hts iX6 hown hK hP 0 rfl rfl 0 (by decide) (hts _ qf_X6_9) (fun _ h => h) rfl dX6_readRock_169 ?_
                      refine va_get (D := D) (ci := 4) (v := .int (iZ (I_150 7))) (C := RX4) (T := TX4) (N := 12) hx hb hts iX4 hown hK hP 1 rfl rfl 8 (by decide) (hts _ qf_X6_34) (fun _ h => h) rfl dX6_readRock_172 ?_
                      refine lv_bipush (v := iZ 7) hx hb dX6_readRock_175 (by decide) ?_
                      refine lv_icmp_ne (tgt := 202) hx hb dX6_readRock_177 (by decide) (fun c_163 => ?_) (fun c_163 => ?_)
                      ·
                        have c_163 := mt (zeq (x := iZ (I_150 7)) (y := iZ 7) rfl rfl ⟨by omega, by omega⟩ ⟨by omega, by omega⟩).mpr c_163
                        refine lv_iload_n hx hb dX6_readRock_202 rfl (lv_at hl 0 rfl) ?_
                        refine lv_if_eq (tgt := 218) hx hb dX6_readRock_203 (by decide) (fun c => absurd c (by decide)) (fun _ => ?_)
                        refine lv_aload_n hx hb dX6_readRock_206 rfl (lv_at hl 2 rfl) ?_
                        refine va_get (D := D) (ci := 6) (v := .ref hr1) (C := RX6) (T := TX6) (N := 3) hx hb hts iX6 hown hK hP 0 rfl rfl 0 (by decide) (hts _ qf_X6_9) (fun _ h => h) rfl dX6_readRock_207 ?_
                        refine lv_bipush (v := iZ 59) hx hb dX6_readRock_210 (by decide) ?_
                        refine CWV (As := [.int (iZ 59)]) (rest := []) (wc := [(hr1, .inr (4, [.ref tx, .ref kw, .int (iZ (I_150 1)), .int (iZ (I_150 2)), .int (iZ (I_150 3)), .int (iZ (I_150 4)), .int (iZ (I_150 5)), .int (iZ (I_150 6)), .int (iZ (I_150 7)), .long (L_151 1), .int (iZ (I_150 8)), .int (iZ (I_150 9))])), (tx, .inl (k 0, 900, .inl bf)), (kw, .inl (k 2, 25, .inr (.inl kwf)))]) (wr := [(hq, .inr (6, [.ref hr1, .ref hs, .int (iZ lt)])), (hs, .inr (5, [.ref hN, .ref hf, .ref hg, .int (iZ n), .int (iZ ni), .int (iZ lw), .int (iZ we)])), (hN, .inl (k 2, 6, .inr (.inl (G_10 0)))), (hf, .inl (k 1, 36, .inl (F_152 0))), (hg, .inl (k 1, 32, .inl g))]) hx hb hml hown hts hKK hP hD hS hA (k_takeSign l D k hr1 tx kw bf kwf (I_150 1) (I_150 2) (I_150 3) (I_150 4) (I_150 5) (I_150 6) (I_150 7) (I_150 8) (I_150 9) (L_151 1) (show RDI _ from (show (0 ≤ (I_150 1) ∧ (I_150 1) ≤ 900) ∧ (0 ≤ (I_150 2) ∧ (I_150 2) ≤ 900) ∧ (0 ≤ (I_150 3) ∧ (I_150 3) ≤ (I_150 4)) ∧ ((I_150 4) ≤ (I_150 2)) ∧ (0 ≤ (I_150 5) ∧ (I_150 5) ≤ 4) ∧ (-2147483648 ≤ (I_150 6) ∧ (I_150 6) < 2147483648) ∧ (-1 ≤ (I_150 7) ∧ (I_150 7) ≤ 24) from ⟨⟨by omega, by omega⟩, ⟨by omega, by omega⟩, ⟨by omega, by omega⟩, by omega, ⟨by omega, by omega⟩, ⟨by omega, by omega⟩, by omega, by omega⟩)) 59 ⟨by omega, by omega⟩) ci_X4_takeSign qm_X6_67 ⟨Nat.le_of_ble_eq_true rfl, Nat.le_of_ble_eq_true rfl⟩ ⟨Nat.le_of_ble_eq_true rfl, Nat.le_of_ble_eq_true rfl⟩ [1, 2, 3] [0, 4, 5, 6, 7] rfl rfl rfl rfl rfl (by decide) 0 rfl rfl rfl hl.1 rfl (Nat.le_of_ble_eq_true rfl) dX6_readRock_212 (fun u_165 H locs hφ hP hD hS => ?_)
                        obtain ⟨I_166, nm_167⟩ := u_165
                        obtain ⟨ah_168, b1h_168, b2h_168, b3h_168, b4h_168, b5h_168, b6h_168, b7h_168⟩ := hφ
                        dsimp only at ah_168 b1h_168 b2h_168 b3h_168 b4h_168 b5h_168 b6h_168 b7h_168
                        refine W.eq (g2 := F0 m 215 ls [.int (iZ (I_166 0))]) rfl ?_
                        rcases (show ((I_166 0) = 0) ∨ ((I_166 0) = 1) from (by omega)) with s_169 | s_169
                        ·
                          rw [s_169]
                          refine lv_if_ne (tgt := 220) hx hb dX6_readRock_215 (by decide) (fun c => absurd (by decide) c) (fun _ => ?_)
                          refine lv_iconst (v := iZ 0) hx hb dX6_readRock_218 (by decide) ?_
                          exact EWz hx hb hr hlocks hS (fun i => [0, (I_166 1), (I_166 2), (I_166 3), (I_166 4), (I_166 5), (I_166 6), (I_166 7), (I_166 8), (I_166 9), n, we].getD i 0, fun i => [0, nm_167].getD i 0, fun i => [(F_152 0)].getD i (fun _ => 0), fun i => [(G_10 0)].getD i (fun _ => 0)) rfl rfl ⟨(show (0 ≤ (I_166 1) ∧ (I_166 1) ≤ 900) ∧ (0 ≤ (I_166 2) ∧ (I_166 2) ≤ 900) ∧ (0 ≤ (I_166 3) ∧ (I_166 3) ≤ (I_166 4)) ∧ ((I_166 4) ≤ (I_166 2)) ∧ (0 ≤ (I_166 5) ∧ (I_166 5) ≤ 4) ∧ (-2147483648 ≤ (I_166 6) ∧ (I_166 6) < 2147483648) ∧ (-1 ≤ (I_166 7) ∧ (I_166 7) ≤ 24) from (by first | with_reducible assumption | exact ⟨⟨by omega, by omega⟩, ⟨by omega, by omega⟩, ⟨by omega, by omega⟩, by omega, ⟨by omega, by omega⟩, ⟨by omega, by omega⟩, by omega, by omega⟩)), (show (I_166 1) = tp from (by omega)), (show -2147483648 ≤ we ∧ we < 2147483648 from ⟨by omega, by omega⟩), (show 0 = 0 ∨ (0 = 1 ∧ (0 ≤ n ∧ n ≤ 6) ∧ SKZ (F_152 0) n) from (Or.inl rfl))⟩ (hP.sub [0, 5, 6, 7, 1, 2, 3, 4] rfl) (hD.sub [0, 5, 6, 7, 1, 2, 3, 4] rfl rfl) dX6_readRock_219
                        ·
                          rw [s_169]
                          refine lv_if_ne (tgt := 220) hx hb dX6_readRock_215 (by decide) (fun _ => ?_) (fun c => absurd c (by decide))
                          refine lv_aload_n hx hb dX6_readRock_220 rfl (lv_at hl 2 rfl) ?_
                          refine va_get (D := D) (ci := 6) (v := .ref hs) (C := RX6) (T := TX6) (N := 3) hx hb hts iX6 hown hK hP 0 rfl rfl 1 (by decide) (hts _ qf_X6_15) (fun _ h => h) rfl dX6_readRock_221 ?_
                          refine lv_dup hx hb dX6_readRock_224 rfl ?_
                          refine va_get (D := D) (ci := 5) (v := .int (iZ n)) (C := RX5) (T := TX5) (N := 7) hx hb hts iX5 hown hK hP 1 rfl rfl 3 (by decide) (hts _ qf_X6_51) (fun _ h => h) rfl dX6_readRock_225 ?_
                          refine lv_iconst (v := iZ 1) hx hb dX6_readRock_228 (by decide) ?_
                          refine lv_iadd hx hb dX6_readRock_229 ?_
                          refine lv_topi (fun x_172 ex_172 => ?_)
                          obtain rfl : x_172 = iZ (n + 1) := ex_172.trans (iZ_add n 1)
                          refine va_put (D := D) (ci := 5) (v := .int (iZ (n + 1))) (ty := .int) (C := RX5) (T := TX5) (N := 7) hx hb hts iX5 tyX5 tyX5_ok nmX5 hown hK hP hD hS 1 rfl rfl 3 (by decide) (hts _ qf_X6_51) (fun _ h => h) rfl (by decide +kernel) rfl rfl (Nat.le_of_ble_eq_true rfl) dX6_readRock_230 (fun H locs hP hD hS => ?_)
                          refine lv_iconst (v := iZ 1) hx hb dX6_readRock_233 (by decide) ?_
                          exact EWz hx hb hr hlocks hS (fun i => [1, (I_166 1), (I_166 2), (I_166 3), (I_166 4), (I_166 5), (I_166 6), (I_166 7), (I_166 8), (I_166 9), (n + 1), we].getD i 0, fun i => [0, nm_167].getD i 0, fun i => [(F_152 0)].getD i (fun _ => 0), fun i => [(G_10 0)].getD i (fun _ => 0)) rfl rfl ⟨(show (0 ≤ (I_166 1) ∧ (I_166 1) ≤ 900) ∧ (0 ≤ (I_166 2) ∧ (I_166 2) ≤ 900) ∧ (0 ≤ (I_166 3) ∧ (I_166 3) ≤ (I_166 4)) ∧ ((I_166 4) ≤ (I_166 2)) ∧ (0 ≤ (I_166 5) ∧ (I_166 5) ≤ 4) ∧ (-2147483648 ≤ (I_166 6) ∧ (I_166 6) < 2147483648) ∧ (-1 ≤ (I_166 7) ∧ (I_166 7) ≤ 24) from (by first | with_reducible assumption | exact ⟨⟨by omega, by omega⟩, ⟨by omega, by omega⟩, ⟨by omega, by omega⟩, by omega, ⟨by omega, by omega⟩, ⟨by omega, by omega⟩, by omega, by omega⟩)), (show (I_166 1) = tp from (by omega)), (show -2147483648 ≤ we ∧ we < 2147483648 from ⟨by omega, by omega⟩), (show 1 = 0 ∨ (1 = 1 ∧ (0 ≤ (n + 1) ∧ (n + 1) ≤ 6) ∧ SKZ (F_152 0) (n + 1)) from (Or.inr ⟨rfl, ⟨by omega, SKR.skz sk_161 ⟨by omega, by omega⟩⟩⟩))⟩ (hP.sub [0, 5, 6, 7, 1, 2, 3, 4] rfl) (hD.sub [0, 5, 6, 7, 1, 2, 3, 4] rfl rfl) dX6_readRock_234
                      ·
                        have c_163 := (zeq (x := iZ (I_150 7)) (y := iZ 7) rfl rfl ⟨by omega, by omega⟩ ⟨by omega, by omega⟩).mp c_163
                        refine lv_aload_n hx hb dX6_readRock_180 rfl (lv_at hl 2 rfl) ?_
                        refine va_get (D := D) (ci := 6) (v := .ref hr1) (C := RX6) (T := TX6) (N := 3) hx hb hts iX6 hown hK hP 0 rfl rfl 0 (by decide) (hts _ qf_X6_9) (fun _ h => h) rfl dX6_readRock_181 ?_
                        refine CWV (As := []) (rest := []) (wc := [(hr1, .inr (4, [.ref tx, .ref kw, .int (iZ (I_150 1)), .int (iZ (I_150 2)), .int (iZ (I_150 3)), .int (iZ (I_150 4)), .int (iZ (I_150 5)), .int (iZ (I_150 6)), .int (iZ (I_150 7)), .long (L_151 1), .int (iZ (I_150 8)), .int (iZ (I_150 9))])), (tx, .inl (k 0, 900, .inl bf)), (kw, .inl (k 2, 25, .inr (.inl kwf)))]) (wr := [(hq, .inr (6, [.ref hr1, .ref hs, .int (iZ lt)])), (hs, .inr (5, [.ref hN, .ref hf, .ref hg, .int (iZ n), .int (iZ ni), .int (iZ lw), .int (iZ we)])), (hN, .inl (k 2, 6, .inr (.inl (G_10 0)))), (hf, .inl (k 1, 36, .inl (F_152 0))), (hg, .inl (k 1, 32, .inl g))]) hx hb hml hown hts hKK hP hD hS hA (k_next l D k hr1 tx kw bf kwf (I_150 1) (I_150 2) (I_150 3) (I_150 4) (I_150 5) (I_150 6) (I_150 7) (I_150 8) (I_150 9) (L_151 1) (show RDI _ from (show (0 ≤ (I_150 1) ∧ (I_150 1) ≤ 900) ∧ (0 ≤ (I_150 2) ∧ (I_150 2) ≤ 900) ∧ (0 ≤ (I_150 4) ∧ (I_150 4) ≤ (I_150 4)) ∧ ((I_150 4) ≤ (I_150 2)) ∧ (0 ≤ (I_150 5) ∧ (I_150 5) ≤ 4) ∧ (-2147483648 ≤ (0 : Int) ∧ (0 : Int) < 2147483648) ∧ (-1 ≤ (-1 : Int) ∧ (-1 : Int) ≤ 24) from ⟨⟨by omega, by omega⟩, ⟨by omega, by omega⟩, ⟨by omega, by omega⟩, by omega, ⟨by omega, by omega⟩, ⟨by omega, by omega⟩, by omega, by omega⟩))) ci_X4_next qm_X6_54 ⟨Nat.le_of_ble_eq_true rfl, Nat.le_of_ble_eq_true rfl⟩ ⟨Nat.le_of_ble_eq_true rfl, Nat.le_of_ble_eq_true rfl⟩ [1, 2, 3] [0, 4, 5, 6, 7] rfl rfl rfl rfl rfl (by decide) 0 rfl rfl rfl hl.1 rfl (Nat.le_of_ble_eq_true rfl) dX6_readRock_184 (fun u_173 H locs hφ hP hD hS => ?_)
                        obtain ⟨I_174, nm_175⟩ := u_173
                        obtain ⟨ah_176, b1h_176, b2h_176, b3h_176, b4h_176, b5h_176, b6h_176, b7h_176⟩ := hφ
                        dsimp only at ah_176 b1h_176 b2h_176 b3h_176 b4h_176 b5h_176 b6h_176 b7h_176
                        refine W.eq (g2 := F0 m 187 ls []) rfl ?_
                        refine lv_aload_n hx hb dX6_readRock_187 rfl (lv_at hl 2 rfl) ?_
                        refine va_get (D := D) (ci := 6) (v := .ref hs) (C := RX6) (T := TX6) (N := 3) hx hb hts iX6 hown hK hP 0 rfl rfl 1 (by decide) (hts _ qf_X6_15) (fun _ h => h) rfl dX6_readRock_188 ?_
                        refine lv_dup hx hb dX6_readRock_191 rfl ?_
                        refine va_get (D := D) (ci := 5) (v := .int (iZ we)) (C := RX5) (T := TX5) (N := 7) hx hb hts iX5 hown hK hP 1 rfl rfl 6 (by decide) (hts _ qf_X6_64) (fun _ h => h) rfl dX6_readRock_192 ?_
                        refine lv_iconst (v := iZ 1) hx hb dX6_readRock_195 (by decide) ?_
                        refine lv_iload_n hx hb dX6_readRock_196 rfl (lv_at hl 1 rfl) ?_
                        refine lv_ishl hx hb dX6_readRock_197 ?_
                        refine lv_topi (fun x_178 ex_178 => ?_)
                        obtain ⟨z_177, hz_177, hz_177a, hz_177b⟩ := i32_z x_178
                        subst hz_177
                        refine lv_ior hx hb dX6_readRock_198 ?_
                        refine lv_topi (fun x_180 ex_180 => ?_)
                        obtain ⟨z_179, hz_179, hz_179a, hz_179b⟩ := i32_z x_180
                        subst hz_179
                        refine va_put (D := D) (ci := 5) (v := .int (iZ z_179)) (ty := .int) (C := RX5) (T := TX5) (N := 7) hx hb hts iX5 tyX5 tyX5_ok nmX5 hown hK hP hD hS 1 rfl rfl 6 (by decide) (hts _ qf_X6_64) (fun _ h => h) rfl (by decide +kernel) rfl rfl (Nat.le_of_ble_eq_true rfl) dX6_readRock_199 (fun H locs hP hD hS => ?_)
                        refine lv_iload_n hx hb dX6_readRock_202 rfl (lv_at hl 0 rfl) ?_
                        refine lv_if_eq (tgt := 218) hx hb dX6_readRock_203 (by decide) (fun c => absurd c (by decide)) (fun _ => ?_)
                        refine lv_aload_n hx hb dX6_readRock_206 rfl (lv_at hl 2 rfl) ?_
                        refine va_get (D := D) (ci := 6) (v := .ref hr1) (C := RX6) (T := TX6) (N := 3) hx hb hts iX6 hown hK hP 0 rfl rfl 0 (by decide) (hts _ qf_X6_9) (fun _ h => h) rfl dX6_readRock_207 ?_
                        refine lv_bipush (v := iZ 59) hx hb dX6_readRock_210 (by decide) ?_
                        refine CWV (As := [.int (iZ 59)]) (rest := []) (wc := [(hr1, .inr (4, [.ref tx, .ref kw, .int (iZ (I_174 1)), .int (iZ (I_174 2)), .int (iZ (I_174 3)), .int (iZ (I_174 4)), .int (iZ (I_174 5)), .int (iZ (I_174 6)), .int (iZ (I_174 7)), .long nm_175, .int (iZ (I_174 8)), .int (iZ (I_174 9))])), (tx, .inl (k 0, 900, .inl bf)), (kw, .inl (k 2, 25, .inr (.inl kwf)))]) (wr := [(hq, .inr (6, [.ref hr1, .ref hs, .int (iZ lt)])), (hs, .inr (5, [.ref hN, .ref hf, .ref hg, .int (iZ n), .int (iZ ni), .int (iZ lw), .int (iZ z_179)])), (hN, .inl (k 2, 6, .inr (.inl (G_10 0)))), (hf, .inl (k 1, 36, .inl (F_152 0))), (hg, .inl (k 1, 32, .inl g))]) hx hb hml hown hts hKK hP hD hS hA (k_takeSign l D k hr1 tx kw bf kwf (I_174 1) (I_174 2) (I_174 3) (I_174 4) (I_174 5) (I_174 6) (I_174 7) (I_174 8) (I_174 9) nm_175 (show RDI _ from (show (0 ≤ (I_174 1) ∧ (I_174 1) ≤ 900) ∧ (0 ≤ (I_174 2) ∧ (I_174 2) ≤ 900) ∧ (0 ≤ (I_174 3) ∧ (I_174 3) ≤ (I_174 4)) ∧ ((I_174 4) ≤ (I_174 2)) ∧ (0 ≤ (I_174 5) ∧ (I_174 5) ≤ 4) ∧ (-2147483648 ≤ (I_174 6) ∧ (I_174 6) < 2147483648) ∧ (-1 ≤ (I_174 7) ∧ (I_174 7) ≤ 24) from ⟨⟨by omega, by omega⟩, ⟨by omega, by omega⟩, ⟨by omega, by omega⟩, by omega, ⟨by omega, by omega⟩, ⟨by omega, by omega⟩, by omega, by omega⟩)) 59 ⟨by omega, by omega⟩) ci_X4_takeSign qm_X6_67 ⟨Nat.le_of_ble_eq_true rfl, Nat.le_of_ble_eq_true rfl⟩ ⟨Nat.le_of_ble_eq_true rfl, Nat.le_of_ble_eq_true rfl⟩ [5, 6, 7] [0, 1, 2, 3, 4] rfl rfl rfl rfl rfl (by decide) 0 rfl rfl rfl hl.1 rfl (Nat.le_of_ble_eq_true rfl) dX6_readRock_212 (fun u_182 H locs hφ hP hD hS => ?_)
                        obtain ⟨I_183, nm_184⟩ := u_182
                        obtain ⟨ah_185, b1h_185, b2h_185, b3h_185, b4h_185, b5h_185, b6h_185, b7h_185⟩ := hφ
                        dsimp only at ah_185 b1h_185 b2h_185 b3h_185 b4h_185 b5h_185 b6h_185 b7h_185
                        refine W.eq (g2 := F0 m 215 ls [.int (iZ (I_183 0))]) rfl ?_
                        rcases (show ((I_183 0) = 0) ∨ ((I_183 0) = 1) from (by omega)) with s_186 | s_186
                        ·
                          rw [s_186]
                          refine lv_if_ne (tgt := 220) hx hb dX6_readRock_215 (by decide) (fun c => absurd (by decide) c) (fun _ => ?_)
                          refine lv_iconst (v := iZ 0) hx hb dX6_readRock_218 (by decide) ?_
                          exact EWz hx hb hr hlocks hS (fun i => [0, (I_183 1), (I_183 2), (I_183 3), (I_183 4), (I_183 5), (I_183 6), (I_183 7), (I_183 8), (I_183 9), n, z_179].getD i 0, fun i => [0, nm_184].getD i 0, fun i => [(F_152 0)].getD i (fun _ => 0), fun i => [(G_10 0)].getD i (fun _ => 0)) rfl rfl ⟨(show (0 ≤ (I_183 1) ∧ (I_183 1) ≤ 900) ∧ (0 ≤ (I_183 2) ∧ (I_183 2) ≤ 900) ∧ (0 ≤ (I_183 3) ∧ (I_183 3) ≤ (I_183 4)) ∧ ((I_183 4) ≤ (I_183 2)) ∧ (0 ≤ (I_183 5) ∧ (I_183 5) ≤ 4) ∧ (-2147483648 ≤ (I_183 6) ∧ (I_183 6) < 2147483648) ∧ (-1 ≤ (I_183 7) ∧ (I_183 7) ≤ 24) from (by first | with_reducible assumption | exact ⟨⟨by omega, by omega⟩, ⟨by omega, by omega⟩, ⟨by omega, by omega⟩, by omega, ⟨by omega, by omega⟩, ⟨by omega, by omega⟩, by omega, by omega⟩)), (show (I_183 1) = tp from (by omega)), (show -2147483648 ≤ z_179 ∧ z_179 < 2147483648 from ⟨by omega, by omega⟩), (show 0 = 0 ∨ (0 = 1 ∧ (0 ≤ n ∧ n ≤ 6) ∧ SKZ (F_152 0) n) from (Or.inl rfl))⟩ (hP.sub [0, 5, 6, 7, 1, 2, 3, 4] rfl) (hD.sub [0, 5, 6, 7, 1, 2, 3, 4] rfl rfl) dX6_readRock_219
                        ·
                          rw [s_186]
                          refine lv_if_ne (tgt := 220) hx hb dX6_readRock_215 (by decide) (fun _ => ?_) (fun c => absurd c (by decide))
                          refine lv_aload_n hx hb dX6_readRock_220 rfl (lv_at hl 2 rfl) ?_
                          refine va_get (D := D) (ci := 6) (v := .ref hs) (C := RX6) (T := TX6) (N := 3) hx hb hts iX6 hown hK hP 0 rfl rfl 1 (by decide) (hts _ qf_X6_15) (fun _ h => h) rfl dX6_readRock_221 ?_
                          refine lv_dup hx hb dX6_readRock_224 rfl ?_
                          refine va_get (D := D) (ci := 5) (v := .int (iZ n)) (C := RX5) (T := TX5) (N := 7) hx hb hts iX5 hown hK hP 1 rfl rfl 3 (by decide) (hts _ qf_X6_51) (fun _ h => h) rfl dX6_readRock_225 ?_
                          refine lv_iconst (v := iZ 1) hx hb dX6_readRock_228 (by decide) ?_
                          refine lv_iadd hx hb dX6_readRock_229 ?_
                          refine lv_topi (fun x_189 ex_189 => ?_)
                          obtain rfl : x_189 = iZ (n + 1) := ex_189.trans (iZ_add n 1)
                          refine va_put (D := D) (ci := 5) (v := .int (iZ (n + 1))) (ty := .int) (C := RX5) (T := TX5) (N := 7) hx hb hts iX5 tyX5 tyX5_ok nmX5 hown hK hP hD hS 1 rfl rfl 3 (by decide) (hts _ qf_X6_51) (fun _ h => h) rfl (by decide +kernel) rfl rfl (Nat.le_of_ble_eq_true rfl) dX6_readRock_230 (fun H locs hP hD hS => ?_)
                          refine lv_iconst (v := iZ 1) hx hb dX6_readRock_233 (by decide) ?_
                          exact EWz hx hb hr hlocks hS (fun i => [1, (I_183 1), (I_183 2), (I_183 3), (I_183 4), (I_183 5), (I_183 6), (I_183 7), (I_183 8), (I_183 9), (n + 1), z_179].getD i 0, fun i => [0, nm_184].getD i 0, fun i => [(F_152 0)].getD i (fun _ => 0), fun i => [(G_10 0)].getD i (fun _ => 0)) rfl rfl ⟨(show (0 ≤ (I_183 1) ∧ (I_183 1) ≤ 900) ∧ (0 ≤ (I_183 2) ∧ (I_183 2) ≤ 900) ∧ (0 ≤ (I_183 3) ∧ (I_183 3) ≤ (I_183 4)) ∧ ((I_183 4) ≤ (I_183 2)) ∧ (0 ≤ (I_183 5) ∧ (I_183 5) ≤ 4) ∧ (-2147483648 ≤ (I_183 6) ∧ (I_183 6) < 2147483648) ∧ (-1 ≤ (I_183 7) ∧ (I_183 7) ≤ 24) from (by first | with_reducible assumption | exact ⟨⟨by omega, by omega⟩, ⟨by omega, by omega⟩, ⟨by omega, by omega⟩, by omega, ⟨by omega, by omega⟩, ⟨by omega, by omega⟩, by omega, by omega⟩)), (show (I_183 1) = tp from (by omega)), (show -2147483648 ≤ z_179 ∧ z_179 < 2147483648 from ⟨by omega, by omega⟩), (show 1 = 0 ∨ (1 = 1 ∧ (0 ≤ (n + 1) ∧ (n + 1) ≤ 6) ∧ SKZ (F_152 0) (n + 1)) from (Or.inr ⟨rfl, ⟨by omega, SKR.skz sk_161 ⟨by omega, by omega⟩⟩⟩))⟩ (hP.sub [0, 5, 6, 7, 1, 2, 3, 4] rfl) (hD.sub [0, 5, 6, 7, 1, 2, 3, 4] rfl rfl) dX6_readRock_234
            ·
              have c_74 := (zeq (x := iZ (I_57 7)) (y := iZ 4) rfl rfl ⟨by omega, by omega⟩ ⟨by omega, by omega⟩).mp c_74
              refine lv_aload_n hx hb dX6_readRock_102 rfl (lv_at hl 2 rfl) ?_
              refine lv_iconst (v := iZ 4) hx hb dX6_readRock_103 (by decide) ?_
              refine lv_iconst (v := iZ 3) hx hb dX6_readRock_104 (by decide) ?_
              refine lv_iconst (v := iZ 0) hx hb dX6_readRock_105 (by decide) ?_
              refine lv_bipush (v := iZ 9) hx hb dX6_readRock_106 (by decide) ?_
              refine CWV (As := [.int (iZ 4), .int (iZ 3), .int (iZ 0), .int (iZ 9)]) (rest := []) (wc := [(hq, .inr (6, [.ref hr1, .ref hs, .int (iZ lt)])), (hr1, .inr (4, [.ref tx, .ref kw, .int (iZ (I_57 1)), .int (iZ (I_57 2)), .int (iZ (I_57 3)), .int (iZ (I_57 4)), .int (iZ (I_57 5)), .int (iZ (I_57 6)), .int (iZ (I_57 7)), .long (L_58 1), .int (iZ (I_57 8)), .int (iZ (I_57 9))])), (tx, .inl (k 0, 900, .inl bf)), (kw, .inl (k 2, 25, .inr (.inl kwf))), (hs, .inr (5, [.ref hN, .ref hf, .ref hg, .int (iZ n), .int (iZ ni), .int (iZ lw), .int (iZ we)])), (hN, .inl (k 2, 6, .inr (.inl (G_10 0)))), (hf, .inl (k 1, 36, .inl (F_59 0))), (hg, .inl (k 1, 32, .inl g))]) (wr := []) hx hb hml hown hts hKK hP hD hS hA (k_readFact l D k hq hr1 tx kw lt (I_57 1) (I_57 2) (I_57 3) (I_57 4) (I_57 5) (I_57 6) (I_57 7) (I_57 8) (I_57 9) (L_58 1) bf kwf hs hN hf hg n ni lw we (G_10 0) (F_59 0) g 4 3 0 9 (by first | with_reducible assumption | exact ⟨⟨by omega, by omega⟩, ⟨by omega, by omega⟩, ⟨by omega, by omega⟩, by omega, ⟨by omega, by omega⟩, ⟨by omega, by omega⟩, by omega, by omega⟩) ⟨by omega, by omega⟩ ⟨by omega, by omega⟩ ⟨by omega, by omega⟩ ⟨by omega, by omega⟩ ⟨by omega, by omega⟩) ci_X6_readFact qm_X6_60 ⟨Nat.le_of_ble_eq_true rfl, Nat.le_of_ble_eq_true rfl⟩ ⟨Nat.le_of_ble_eq_true rfl, Nat.le_of_ble_eq_true rfl⟩ [0, 1, 2, 3, 4, 5, 6, 7] [] rfl rfl rfl rfl rfl (by decide) 0 rfl rfl rfl hl.1 rfl (Nat.le_of_ble_eq_true rfl) dX6_readRock_108 (fun u_190 H locs hφ hP hD hS => ?_)
              obtain ⟨I_191, L_192, F_193, G_194⟩ := u_190
              obtain ⟨p_196, p_197, p_198⟩ : ((0 ≤ (I_191 1) ∧ (I_191 1) ≤ 900) ∧ (0 ≤ (I_191 2) ∧ (I_191 2) ≤ 900) ∧ (0 ≤ (I_191 3) ∧ (I_191 3) ≤ (I_191 4)) ∧ ((I_191 4) ≤ (I_191 2)) ∧ (0 ≤ (I_191 5) ∧ (I_191 5) ≤ 4) ∧ (-2147483648 ≤ (I_191 6) ∧ (I_191 6) < 2147483648) ∧ (-1 ≤ (I_191 7) ∧ (I_191 7) ≤ 24)) ∧ ((I_191 1) = (I_57 1)) ∧ ((I_191 0) = 0 ∨ ((I_191 0) = 1 ∧ ∃ v6 : Int, 0 ≤ v6 ∧ v6 ≤ 9 ∧ (F_193 0) = upd (F_59 0) (iZ ((n * 6) + 3)).toNatClampNeg (iZ v6))) := hφ
              refine W.eq (g2 := F0 m 111 ls [.int (iZ (I_191 0))]) rfl ?_
              rcases p_198 with qt_199 | ⟨qt_199, vt_199, g1t_199, g2t_199, ht_199⟩
              ·
                rw [qt_199]
                refine lv_istore_n (lv' := [(2, .int (iZ 0)), (1, .int (iZ n)), (0, .ref hq)]) hx hb dX6_readRock_111 rfl hl (by decide) rfl (fun ls hl => ?_)
                refine lv_iload_n hx hb dX6_readRock_112 rfl (lv_at hl 0 rfl) ?_
                refine lv_if_eq (tgt := 164) hx hb dX6_readRock_113 (by decide) (fun _ => ?_) (fun c => absurd (by decide) c)
                refine lv_iload_n hx hb dX6_readRock_164 rfl (lv_at hl 0 rfl) ?_
                refine lv_if_eq (tgt := 202) hx hb dX6_readRock_165 (by decide) (fun _ => ?_) (fun c => absurd (by decide) c)
                refine lv_iload_n hx hb dX6_readRock_202 rfl (lv_at hl 0 rfl) ?_
                refine lv_if_eq (tgt := 218) hx hb dX6_readRock_203 (by decide) (fun _ => ?_) (fun c => absurd (by decide) c)
                refine lv_iconst (v := iZ 0) hx hb dX6_readRock_218 (by decide) ?_
                exact EWz hx hb hr hlocks hS (fun i => [0, (I_191 1), (I_191 2), (I_191 3), (I_191 4), (I_191 5), (I_191 6), (I_191 7), (I_191 8), (I_191 9), n, we].getD i 0, fun i => [0, (L_192 1)].getD i 0, fun i => [(F_193 0)].getD i (fun _ => 0), fun i => [(G_10 0)].getD i (fun _ => 0)) rfl rfl ⟨(show (0 ≤ (I_191 1) ∧ (I_191 1) ≤ 900) ∧ (0 ≤ (I_191 2) ∧ (I_191 2) ≤ 900) ∧ (0 ≤ (I_191 3) ∧ (I_191 3) ≤ (I_191 4)) ∧ ((I_191 4) ≤ (I_191 2)) ∧ (0 ≤ (I_191 5) ∧ (I_191 5) ≤ 4) ∧ (-2147483648 ≤ (I_191 6) ∧ (I_191 6) < 2147483648) ∧ (-1 ≤ (I_191 7) ∧ (I_191 7) ≤ 24) from (by first | with_reducible assumption | exact ⟨⟨by omega, by omega⟩, ⟨by omega, by omega⟩, ⟨by omega, by omega⟩, by omega, ⟨by omega, by omega⟩, ⟨by omega, by omega⟩, by omega, by omega⟩)), (show (I_191 1) = tp from (by omega)), (show -2147483648 ≤ we ∧ we < 2147483648 from ⟨by omega, by omega⟩), (show 0 = 0 ∨ (0 = 1 ∧ (0 ≤ n ∧ n ≤ 6) ∧ SKZ (F_193 0) n) from (Or.inl rfl))⟩ (hP.sub [0, 1, 2, 3, 4, 5, 6, 7] rfl) (hD.sub [0, 1, 2, 3, 4, 5, 6, 7] rfl rfl) dX6_readRock_219
              ·
                rw [qt_199]
                have sk_203 : SKR _ n 1 := SKR.up (w := 3) sk_71 ht_199 ⟨by omega, by omega⟩ (by omega)
                refine lv_istore_n (lv' := [(2, .int (iZ 1)), (1, .int (iZ n)), (0, .ref hq)]) hx hb dX6_readRock_111 rfl hl (by decide) rfl (fun ls hl => ?_)
                refine lv_iload_n hx hb dX6_readRock_112 rfl (lv_at hl 0 rfl) ?_
                refine lv_if_eq (tgt := 164) hx hb dX6_readRock_113 (by decide) (fun c => absurd c (by decide)) (fun _ => ?_)
                refine lv_aload_n hx hb dX6_readRock_116 rfl (lv_at hl 2 rfl) ?_
                refine va_get (D := D) (ci := 6) (v := .ref hr1) (C := RX6) (T := TX6) (N := 3) hx hb hts iX6 hown hK hP 0 rfl rfl 0 (by decide) (hts _ qf_X6_9) (fun _ h => h) rfl dX6_readRock_117 ?_
                refine va_get (D := D) (ci := 4) (v := .int (iZ (I_191 7))) (C := RX4) (T := TX4) (N := 12) hx hb hts iX4 hown hK hP 1 rfl rfl 8 (by decide) (hts _ qf_X6_34) (fun _ h => h) rfl dX6_readRock_120 ?_
                refine lv_iconst (v := iZ 5) hx hb dX6_readRock_123 (by decide) ?_
                refine lv_icmp_ne (tgt := 164) hx hb dX6_readRock_124 (by decide) (fun c_205 => ?_) (fun c_205 => ?_)
                ·
                  have c_205 := mt (zeq (x := iZ (I_191 7)) (y := iZ 5) rfl rfl ⟨by omega, by omega⟩ ⟨by omega, by omega⟩).mpr c_205
                  refine lv_iload_n hx hb dX6_readRock_164 rfl (lv_at hl 0 rfl) ?_
                  refine lv_if_eq (tgt := 202) hx hb dX6_readRock_165 (by decide) (fun c => absurd c (by decide)) (fun _ => ?_)
                  refine lv_aload_n hx hb dX6_readRock_168 rfl (lv_at hl 2 rfl) ?_
                  refine va_get (D := D) (ci := 6) (v := .ref hr1) (C := RX6) (T := TX6) (N := 3) hx hb hts iX6 hown hK hP 0 rfl rfl 0 (by decide) (hts _ qf_X6_9) (fun _ h => h) rfl dX6_readRock_169 ?_
                  refine va_get (D := D) (ci := 4) (v := .int (iZ (I_191 7))) (C := RX4) (T := TX4) (N := 12) hx hb hts iX4 hown hK hP 1 rfl rfl 8 (by decide) (hts _ qf_X6_34) (fun _ h => h) rfl dX6_readRock_172 ?_
                  refine lv_bipush (v := iZ 7) hx hb dX6_readRock_175 (by decide) ?_
                  refine lv_icmp_ne (tgt := 202) hx hb dX6_readRock_177 (by decide) (fun c_207 => ?_) (fun c_207 => ?_)
                  ·
                    have c_207 := mt (zeq (x := iZ (I_191 7)) (y := iZ 7) rfl rfl ⟨by omega, by omega⟩ ⟨by omega, by omega⟩).mpr c_207
                    refine lv_iload_n hx hb dX6_readRock_202 rfl (lv_at hl 0 rfl) ?_
                    refine lv_if_eq (tgt := 218) hx hb dX6_readRock_203 (by decide) (fun c => absurd c (by decide)) (fun _ => ?_)
                    refine lv_aload_n hx hb dX6_readRock_206 rfl (lv_at hl 2 rfl) ?_
                    refine va_get (D := D) (ci := 6) (v := .ref hr1) (C := RX6) (T := TX6) (N := 3) hx hb hts iX6 hown hK hP 0 rfl rfl 0 (by decide) (hts _ qf_X6_9) (fun _ h => h) rfl dX6_readRock_207 ?_
                    refine lv_bipush (v := iZ 59) hx hb dX6_readRock_210 (by decide) ?_
                    refine CWV (As := [.int (iZ 59)]) (rest := []) (wc := [(hr1, .inr (4, [.ref tx, .ref kw, .int (iZ (I_191 1)), .int (iZ (I_191 2)), .int (iZ (I_191 3)), .int (iZ (I_191 4)), .int (iZ (I_191 5)), .int (iZ (I_191 6)), .int (iZ (I_191 7)), .long (L_192 1), .int (iZ (I_191 8)), .int (iZ (I_191 9))])), (tx, .inl (k 0, 900, .inl bf)), (kw, .inl (k 2, 25, .inr (.inl kwf)))]) (wr := [(hq, .inr (6, [.ref hr1, .ref hs, .int (iZ lt)])), (hs, .inr (5, [.ref hN, .ref hf, .ref hg, .int (iZ n), .int (iZ ni), .int (iZ lw), .int (iZ we)])), (hN, .inl (k 2, 6, .inr (.inl (G_10 0)))), (hf, .inl (k 1, 36, .inl (F_193 0))), (hg, .inl (k 1, 32, .inl g))]) hx hb hml hown hts hKK hP hD hS hA (k_takeSign l D k hr1 tx kw bf kwf (I_191 1) (I_191 2) (I_191 3) (I_191 4) (I_191 5) (I_191 6) (I_191 7) (I_191 8) (I_191 9) (L_192 1) (show RDI _ from (show (0 ≤ (I_191 1) ∧ (I_191 1) ≤ 900) ∧ (0 ≤ (I_191 2) ∧ (I_191 2) ≤ 900) ∧ (0 ≤ (I_191 3) ∧ (I_191 3) ≤ (I_191 4)) ∧ ((I_191 4) ≤ (I_191 2)) ∧ (0 ≤ (I_191 5) ∧ (I_191 5) ≤ 4) ∧ (-2147483648 ≤ (I_191 6) ∧ (I_191 6) < 2147483648) ∧ (-1 ≤ (I_191 7) ∧ (I_191 7) ≤ 24) from ⟨⟨by omega, by omega⟩, ⟨by omega, by omega⟩, ⟨by omega, by omega⟩, by omega, ⟨by omega, by omega⟩, ⟨by omega, by omega⟩, by omega, by omega⟩)) 59 ⟨by omega, by omega⟩) ci_X4_takeSign qm_X6_67 ⟨Nat.le_of_ble_eq_true rfl, Nat.le_of_ble_eq_true rfl⟩ ⟨Nat.le_of_ble_eq_true rfl, Nat.le_of_ble_eq_true rfl⟩ [1, 2, 3] [0, 4, 5, 6, 7] rfl rfl rfl rfl rfl (by decide) 0 rfl rfl rfl hl.1 rfl (Nat.le_of_ble_eq_true rfl) dX6_readRock_212 (fun u_209 H locs hφ hP hD hS => ?_)
                    obtain ⟨I_210, nm_211⟩ := u_209
                    obtain ⟨ah_212, b1h_212, b2h_212, b3h_212, b4h_212, b5h_212, b6h_212, b7h_212⟩ := hφ
                    dsimp only at ah_212 b1h_212 b2h_212 b3h_212 b4h_212 b5h_212 b6h_212 b7h_212
                    refine W.eq (g2 := F0 m 215 ls [.int (iZ (I_210 0))]) rfl ?_
                    rcases (show ((I_210 0) = 0) ∨ ((I_210 0) = 1) from (by omega)) with s_213 | s_213
                    ·
                      rw [s_213]
                      refine lv_if_ne (tgt := 220) hx hb dX6_readRock_215 (by decide) (fun c => absurd (by decide) c) (fun _ => ?_)
                      refine lv_iconst (v := iZ 0) hx hb dX6_readRock_218 (by decide) ?_
                      exact EWz hx hb hr hlocks hS (fun i => [0, (I_210 1), (I_210 2), (I_210 3), (I_210 4), (I_210 5), (I_210 6), (I_210 7), (I_210 8), (I_210 9), n, we].getD i 0, fun i => [0, nm_211].getD i 0, fun i => [(F_193 0)].getD i (fun _ => 0), fun i => [(G_10 0)].getD i (fun _ => 0)) rfl rfl ⟨(show (0 ≤ (I_210 1) ∧ (I_210 1) ≤ 900) ∧ (0 ≤ (I_210 2) ∧ (I_210 2) ≤ 900) ∧ (0 ≤ (I_210 3) ∧ (I_210 3) ≤ (I_210 4)) ∧ ((I_210 4) ≤ (I_210 2)) ∧ (0 ≤ (I_210 5) ∧ (I_210 5) ≤ 4) ∧ (-2147483648 ≤ (I_210 6) ∧ (I_210 6) < 2147483648) ∧ (-1 ≤ (I_210 7) ∧ (I_210 7) ≤ 24) from (by first | with_reducible assumption | exact ⟨⟨by omega, by omega⟩, ⟨by omega, by omega⟩, ⟨by omega, by omega⟩, by omega, ⟨by omega, by omega⟩, ⟨by omega, by omega⟩, by omega, by omega⟩)), (show (I_210 1) = tp from (by omega)), (show -2147483648 ≤ we ∧ we < 2147483648 from ⟨by omega, by omega⟩), (show 0 = 0 ∨ (0 = 1 ∧ (0 ≤ n ∧ n ≤ 6) ∧ SKZ (F_193 0) n) from (Or.inl rfl))⟩ (hP.sub [0, 5, 6, 7, 1, 2, 3, 4] rfl) (hD.sub [0, 5, 6, 7, 1, 2, 3, 4] rfl rfl) dX6_readRock_219
                    ·
                      rw [s_213]
                      refine lv_if_ne (tgt := 220) hx hb dX6_readRock_215 (by decide) (fun _ => ?_) (fun c => absurd c (by decide))
                      refine lv_aload_n hx hb dX6_readRock_220 rfl (lv_at hl 2 rfl) ?_
                      refine va_get (D := D) (ci := 6) (v := .ref hs) (C := RX6) (T := TX6) (N := 3) hx hb hts iX6 hown hK hP 0 rfl rfl 1 (by decide) (hts _ qf_X6_15) (fun _ h => h) rfl dX6_readRock_221 ?_
                      refine lv_dup hx hb dX6_readRock_224 rfl ?_
                      refine va_get (D := D) (ci := 5) (v := .int (iZ n)) (C := RX5) (T := TX5) (N := 7) hx hb hts iX5 hown hK hP 1 rfl rfl 3 (by decide) (hts _ qf_X6_51) (fun _ h => h) rfl dX6_readRock_225 ?_
                      refine lv_iconst (v := iZ 1) hx hb dX6_readRock_228 (by decide) ?_
                      refine lv_iadd hx hb dX6_readRock_229 ?_
                      refine lv_topi (fun x_216 ex_216 => ?_)
                      obtain rfl : x_216 = iZ (n + 1) := ex_216.trans (iZ_add n 1)
                      refine va_put (D := D) (ci := 5) (v := .int (iZ (n + 1))) (ty := .int) (C := RX5) (T := TX5) (N := 7) hx hb hts iX5 tyX5 tyX5_ok nmX5 hown hK hP hD hS 1 rfl rfl 3 (by decide) (hts _ qf_X6_51) (fun _ h => h) rfl (by decide +kernel) rfl rfl (Nat.le_of_ble_eq_true rfl) dX6_readRock_230 (fun H locs hP hD hS => ?_)
                      refine lv_iconst (v := iZ 1) hx hb dX6_readRock_233 (by decide) ?_
                      exact EWz hx hb hr hlocks hS (fun i => [1, (I_210 1), (I_210 2), (I_210 3), (I_210 4), (I_210 5), (I_210 6), (I_210 7), (I_210 8), (I_210 9), (n + 1), we].getD i 0, fun i => [0, nm_211].getD i 0, fun i => [(F_193 0)].getD i (fun _ => 0), fun i => [(G_10 0)].getD i (fun _ => 0)) rfl rfl ⟨(show (0 ≤ (I_210 1) ∧ (I_210 1) ≤ 900) ∧ (0 ≤ (I_210 2) ∧ (I_210 2) ≤ 900) ∧ (0 ≤ (I_210 3) ∧ (I_210 3) ≤ (I_210 4)) ∧ ((I_210 4) ≤ (I_210 2)) ∧ (0 ≤ (I_210 5) ∧ (I_210 5) ≤ 4) ∧ (-2147483648 ≤ (I_210 6) ∧ (I_210 6) < 2147483648) ∧ (-1 ≤ (I_210 7) ∧ (I_210 7) ≤ 24) from (by first | with_reducible assumption | exact ⟨⟨by omega, by omega⟩, ⟨by omega, by omega⟩, ⟨by omega, by omega⟩, by omega, ⟨by omega, by omega⟩, ⟨by omega, by omega⟩, by omega, by omega⟩)), (show (I_210 1) = tp from (by omega)), (show -2147483648 ≤ we ∧ we < 2147483648 from ⟨by omega, by omega⟩), (show 1 = 0 ∨ (1 = 1 ∧ (0 ≤ (n + 1) ∧ (n + 1) ≤ 6) ∧ SKZ (F_193 0) (n + 1)) from (Or.inr ⟨rfl, ⟨by omega, SKR.skz sk_203 ⟨by omega, by omega⟩⟩⟩))⟩ (hP.sub [0, 5, 6, 7, 1, 2, 3, 4] rfl) (hD.sub [0, 5, 6, 7, 1, 2, 3, 4] rfl rfl) dX6_readRock_234
                  ·
                    have c_207 := (zeq (x := iZ (I_191 7)) (y := iZ 7) rfl rfl ⟨by omega, by omega⟩ ⟨by omega, by omega⟩).mp c_207
                    refine lv_aload_n hx hb dX6_readRock_180 rfl (lv_at hl 2 rfl) ?_
                    refine va_get (D := D) (ci := 6) (v := .ref hr1) (C := RX6) (T := TX6) (N := 3) hx hb hts iX6 hown hK hP 0 rfl rfl 0 (by decide) (hts _ qf_X6_9) (fun _ h => h) rfl dX6_readRock_181 ?_
                    refine CWV (As := []) (rest := []) (wc := [(hr1, .inr (4, [.ref tx, .ref kw, .int (iZ (I_191 1)), .int (iZ (I_191 2)), .int (iZ (I_191 3)), .int (iZ (I_191 4)), .int (iZ (I_191 5)), .int (iZ (I_191 6)), .int (iZ (I_191 7)), .long (L_192 1), .int (iZ (I_191 8)), .int (iZ (I_191 9))])), (tx, .inl (k 0, 900, .inl bf)), (kw, .inl (k 2, 25, .inr (.inl kwf)))]) (wr := [(hq, .inr (6, [.ref hr1, .ref hs, .int (iZ lt)])), (hs, .inr (5, [.ref hN, .ref hf, .ref hg, .int (iZ n), .int (iZ ni), .int (iZ lw), .int (iZ we)])), (hN, .inl (k 2, 6, .inr (.inl (G_10 0)))), (hf, .inl (k 1, 36, .inl (F_193 0))), (hg, .inl (k 1, 32, .inl g))]) hx hb hml hown hts hKK hP hD hS hA (k_next l D k hr1 tx kw bf kwf (I_191 1) (I_191 2) (I_191 3) (I_191 4) (I_191 5) (I_191 6) (I_191 7) (I_191 8) (I_191 9) (L_192 1) (show RDI _ from (show (0 ≤ (I_191 1) ∧ (I_191 1) ≤ 900) ∧ (0 ≤ (I_191 2) ∧ (I_191 2) ≤ 900) ∧ (0 ≤ (I_191 4) ∧ (I_191 4) ≤ (I_191 4)) ∧ ((I_191 4) ≤ (I_191 2)) ∧ (0 ≤ (I_191 5) ∧ (I_191 5) ≤ 4) ∧ (-2147483648 ≤ (0 : Int) ∧ (0 : Int) < 2147483648) ∧ (-1 ≤ (-1 : Int) ∧ (-1 : Int) ≤ 24) from ⟨⟨by omega, by omega⟩, ⟨by omega, by omega⟩, ⟨by omega, by omega⟩, by omega, ⟨by omega, by omega⟩, ⟨by omega, by omega⟩, by omega, by omega⟩))) ci_X4_next qm_X6_54 ⟨Nat.le_of_ble_eq_true rfl, Nat.le_of_ble_eq_true rfl⟩ ⟨Nat.le_of_ble_eq_true rfl, Nat.le_of_ble_eq_true rfl⟩ [1, 2, 3] [0, 4, 5, 6, 7] rfl rfl rfl rfl rfl (by decide) 0 rfl rfl rfl hl.1 rfl (Nat.le_of_ble_eq_true rfl) dX6_readRock_184 (fun u_217 H locs hφ hP hD hS => ?_)
                    obtain ⟨I_218, nm_219⟩ := u_217
                    obtain ⟨ah_220, b1h_220, b2h_220, b3h_220, b4h_220, b5h_220, b6h_220, b7h_220⟩ := hφ
                    dsimp only at ah_220 b1h_220 b2h_220 b3h_220 b4h_220 b5h_220 b6h_220 b7h_220
                    refine W.eq (g2 := F0 m 187 ls []) rfl ?_
                    refine lv_aload_n hx hb dX6_readRock_187 rfl (lv_at hl 2 rfl) ?_
                    refine va_get (D := D) (ci := 6) (v := .ref hs) (C := RX6) (T := TX6) (N := 3) hx hb hts iX6 hown hK hP 0 rfl rfl 1 (by decide) (hts _ qf_X6_15) (fun _ h => h) rfl dX6_readRock_188 ?_
                    refine lv_dup hx hb dX6_readRock_191 rfl ?_
                    refine va_get (D := D) (ci := 5) (v := .int (iZ we)) (C := RX5) (T := TX5) (N := 7) hx hb hts iX5 hown hK hP 1 rfl rfl 6 (by decide) (hts _ qf_X6_64) (fun _ h => h) rfl dX6_readRock_192 ?_
                    refine lv_iconst (v := iZ 1) hx hb dX6_readRock_195 (by decide) ?_
                    refine lv_iload_n hx hb dX6_readRock_196 rfl (lv_at hl 1 rfl) ?_
                    refine lv_ishl hx hb dX6_readRock_197 ?_
                    refine lv_topi (fun x_222 ex_222 => ?_)
                    obtain ⟨z_221, hz_221, hz_221a, hz_221b⟩ := i32_z x_222
                    subst hz_221
                    refine lv_ior hx hb dX6_readRock_198 ?_
                    refine lv_topi (fun x_224 ex_224 => ?_)
                    obtain ⟨z_223, hz_223, hz_223a, hz_223b⟩ := i32_z x_224
                    subst hz_223
                    refine va_put (D := D) (ci := 5) (v := .int (iZ z_223)) (ty := .int) (C := RX5) (T := TX5) (N := 7) hx hb hts iX5 tyX5 tyX5_ok nmX5 hown hK hP hD hS 1 rfl rfl 6 (by decide) (hts _ qf_X6_64) (fun _ h => h) rfl (by decide +kernel) rfl rfl (Nat.le_of_ble_eq_true rfl) dX6_readRock_199 (fun H locs hP hD hS => ?_)
                    refine lv_iload_n hx hb dX6_readRock_202 rfl (lv_at hl 0 rfl) ?_
                    refine lv_if_eq (tgt := 218) hx hb dX6_readRock_203 (by decide) (fun c => absurd c (by decide)) (fun _ => ?_)
                    refine lv_aload_n hx hb dX6_readRock_206 rfl (lv_at hl 2 rfl) ?_
                    refine va_get (D := D) (ci := 6) (v := .ref hr1) (C := RX6) (T := TX6) (N := 3) hx hb hts iX6 hown hK hP 0 rfl rfl 0 (by decide) (hts _ qf_X6_9) (fun _ h => h) rfl dX6_readRock_207 ?_
                    refine lv_bipush (v := iZ 59) hx hb dX6_readRock_210 (by decide) ?_
                    refine CWV (As := [.int (iZ 59)]) (rest := []) (wc := [(hr1, .inr (4, [.ref tx, .ref kw, .int (iZ (I_218 1)), .int (iZ (I_218 2)), .int (iZ (I_218 3)), .int (iZ (I_218 4)), .int (iZ (I_218 5)), .int (iZ (I_218 6)), .int (iZ (I_218 7)), .long nm_219, .int (iZ (I_218 8)), .int (iZ (I_218 9))])), (tx, .inl (k 0, 900, .inl bf)), (kw, .inl (k 2, 25, .inr (.inl kwf)))]) (wr := [(hq, .inr (6, [.ref hr1, .ref hs, .int (iZ lt)])), (hs, .inr (5, [.ref hN, .ref hf, .ref hg, .int (iZ n), .int (iZ ni), .int (iZ lw), .int (iZ z_223)])), (hN, .inl (k 2, 6, .inr (.inl (G_10 0)))), (hf, .inl (k 1, 36, .inl (F_193 0))), (hg, .inl (k 1, 32, .inl g))]) hx hb hml hown hts hKK hP hD hS hA (k_takeSign l D k hr1 tx kw bf kwf (I_218 1) (I_218 2) (I_218 3) (I_218 4) (I_218 5) (I_218 6) (I_218 7) (I_218 8) (I_218 9) nm_219 (show RDI _ from (show (0 ≤ (I_218 1) ∧ (I_218 1) ≤ 900) ∧ (0 ≤ (I_218 2) ∧ (I_218 2) ≤ 900) ∧ (0 ≤ (I_218 3) ∧ (I_218 3) ≤ (I_218 4)) ∧ ((I_218 4) ≤ (I_218 2)) ∧ (0 ≤ (I_218 5) ∧ (I_218 5) ≤ 4) ∧ (-2147483648 ≤ (I_218 6) ∧ (I_218 6) < 2147483648) ∧ (-1 ≤ (I_218 7) ∧ (I_218 7) ≤ 24) from ⟨⟨by omega, by omega⟩, ⟨by omega, by omega⟩, ⟨by omega, by omega⟩, by omega, ⟨by omega, by omega⟩, ⟨by omega, by omega⟩, by omega, by omega⟩)) 59 ⟨by omega, by omega⟩) ci_X4_takeSign qm_X6_67 ⟨Nat.le_of_ble_eq_true rfl, Nat.le_of_ble_eq_true rfl⟩ ⟨Nat.le_of_ble_eq_true rfl, Nat.le_of_ble_eq_true rfl⟩ [5, 6, 7] [0, 1, 2, 3, 4] rfl rfl rfl rfl rfl (by decide) 0 rfl rfl rfl hl.1 rfl (Nat.le_of_ble_eq_true rfl) dX6_readRock_212 (fun u_226 H locs hφ hP hD hS => ?_)
                    obtain ⟨I_227, nm_228⟩ := u_226
                    obtain ⟨ah_229, b1h_229, b2h_229, b3h_229, b4h_229, b5h_229, b6h_229, b7h_229⟩ := hφ
                    dsimp only at ah_229 b1h_229 b2h_229 b3h_229 b4h_229 b5h_229 b6h_229 b7h_229
                    refine W.eq (g2 := F0 m 215 ls [.int (iZ (I_227 0))]) rfl ?_
                    rcases (show ((I_227 0) = 0) ∨ ((I_227 0) = 1) from (by omega)) with s_230 | s_230
                    ·
                      rw [s_230]
                      refine lv_if_ne (tgt := 220) hx hb dX6_readRock_215 (by decide) (fun c => absurd (by decide) c) (fun _ => ?_)
                      refine lv_iconst (v := iZ 0) hx hb dX6_readRock_218 (by decide) ?_
                      exact EWz hx hb hr hlocks hS (fun i => [0, (I_227 1), (I_227 2), (I_227 3), (I_227 4), (I_227 5), (I_227 6), (I_227 7), (I_227 8), (I_227 9), n, z_223].getD i 0, fun i => [0, nm_228].getD i 0, fun i => [(F_193 0)].getD i (fun _ => 0), fun i => [(G_10 0)].getD i (fun _ => 0)) rfl rfl ⟨(show (0 ≤ (I_227 1) ∧ (I_227 1) ≤ 900) ∧ (0 ≤ (I_227 2) ∧ (I_227 2) ≤ 900) ∧ (0 ≤ (I_227 3) ∧ (I_227 3) ≤ (I_227 4)) ∧ ((I_227 4) ≤ (I_227 2)) ∧ (0 ≤ (I_227 5) ∧ (I_227 5) ≤ 4) ∧ (-2147483648 ≤ (I_227 6) ∧ (I_227 6) < 2147483648) ∧ (-1 ≤ (I_227 7) ∧ (I_227 7) ≤ 24) from (by first | with_reducible assumption | exact ⟨⟨by omega, by omega⟩, ⟨by omega, by omega⟩, ⟨by omega, by omega⟩, by omega, ⟨by omega, by omega⟩, ⟨by omega, by omega⟩, by omega, by omega⟩)), (show (I_227 1) = tp from (by omega)), (show -2147483648 ≤ z_223 ∧ z_223 < 2147483648 from ⟨by omega, by omega⟩), (show 0 = 0 ∨ (0 = 1 ∧ (0 ≤ n ∧ n ≤ 6) ∧ SKZ (F_193 0) n) from (Or.inl rfl))⟩ (hP.sub [0, 5, 6, 7, 1, 2, 3, 4] rfl) (hD.sub [0, 5, 6, 7, 1, 2, 3, 4] rfl rfl) dX6_readRock_219
                    ·
                      rw [s_230]
                      refine lv_if_ne (tgt := 220) hx hb dX6_readRock_215 (by decide) (fun _ => ?_) (fun c => absurd c (by decide))
                      refine lv_aload_n hx hb dX6_readRock_220 rfl (lv_at hl 2 rfl) ?_
                      refine va_get (D := D) (ci := 6) (v := .ref hs) (C := RX6) (T := TX6) (N := 3) hx hb hts iX6 hown hK hP 0 rfl rfl 1 (by decide) (hts _ qf_X6_15) (fun _ h => h) rfl dX6_readRock_221 ?_
                      refine lv_dup hx hb dX6_readRock_224 rfl ?_
                      refine va_get (D := D) (ci := 5) (v := .int (iZ n)) (C := RX5) (T := TX5) (N := 7) hx hb hts iX5 hown hK hP 1 rfl rfl 3 (by decide) (hts _ qf_X6_51) (fun _ h => h) rfl dX6_readRock_225 ?_
                      refine lv_iconst (v := iZ 1) hx hb dX6_readRock_228 (by decide) ?_
                      refine lv_iadd hx hb dX6_readRock_229 ?_
                      refine lv_topi (fun x_233 ex_233 => ?_)
                      obtain rfl : x_233 = iZ (n + 1) := ex_233.trans (iZ_add n 1)
                      refine va_put (D := D) (ci := 5) (v := .int (iZ (n + 1))) (ty := .int) (C := RX5) (T := TX5) (N := 7) hx hb hts iX5 tyX5 tyX5_ok nmX5 hown hK hP hD hS 1 rfl rfl 3 (by decide) (hts _ qf_X6_51) (fun _ h => h) rfl (by decide +kernel) rfl rfl (Nat.le_of_ble_eq_true rfl) dX6_readRock_230 (fun H locs hP hD hS => ?_)
                      refine lv_iconst (v := iZ 1) hx hb dX6_readRock_233 (by decide) ?_
                      exact EWz hx hb hr hlocks hS (fun i => [1, (I_227 1), (I_227 2), (I_227 3), (I_227 4), (I_227 5), (I_227 6), (I_227 7), (I_227 8), (I_227 9), (n + 1), z_223].getD i 0, fun i => [0, nm_228].getD i 0, fun i => [(F_193 0)].getD i (fun _ => 0), fun i => [(G_10 0)].getD i (fun _ => 0)) rfl rfl ⟨(show (0 ≤ (I_227 1) ∧ (I_227 1) ≤ 900) ∧ (0 ≤ (I_227 2) ∧ (I_227 2) ≤ 900) ∧ (0 ≤ (I_227 3) ∧ (I_227 3) ≤ (I_227 4)) ∧ ((I_227 4) ≤ (I_227 2)) ∧ (0 ≤ (I_227 5) ∧ (I_227 5) ≤ 4) ∧ (-2147483648 ≤ (I_227 6) ∧ (I_227 6) < 2147483648) ∧ (-1 ≤ (I_227 7) ∧ (I_227 7) ≤ 24) from (by first | with_reducible assumption | exact ⟨⟨by omega, by omega⟩, ⟨by omega, by omega⟩, ⟨by omega, by omega⟩, by omega, ⟨by omega, by omega⟩, ⟨by omega, by omega⟩, by omega, by omega⟩)), (show (I_227 1) = tp from (by omega)), (show -2147483648 ≤ z_223 ∧ z_223 < 2147483648 from ⟨by omega, by omega⟩), (show 1 = 0 ∨ (1 = 1 ∧ (0 ≤ (n + 1) ∧ (n + 1) ≤ 6) ∧ SKZ (F_193 0) (n + 1)) from (Or.inr ⟨rfl, ⟨by omega, SKR.skz sk_203 ⟨by omega, by omega⟩⟩⟩))⟩ (hP.sub [0, 5, 6, 7, 1, 2, 3, 4] rfl) (hD.sub [0, 5, 6, 7, 1, 2, 3, 4] rfl rfl) dX6_readRock_234
                ·
                  have c_205 := (zeq (x := iZ (I_191 7)) (y := iZ 5) rfl rfl ⟨by omega, by omega⟩ ⟨by omega, by omega⟩).mp c_205
                  refine lv_aload_n hx hb dX6_readRock_127 rfl (lv_at hl 2 rfl) ?_
                  refine lv_iconst (v := iZ 5) hx hb dX6_readRock_128 (by decide) ?_
                  refine lv_iconst (v := iZ 4) hx hb dX6_readRock_129 (by decide) ?_
                  refine lv_iconst (v := iZ 0) hx hb dX6_readRock_130 (by decide) ?_
                  refine lv_bipush (v := iZ 99) hx hb dX6_readRock_131 (by decide) ?_
                  refine CWV (As := [.int (iZ 5), .int (iZ 4), .int (iZ 0), .int (iZ 99)]) (rest := []) (wc := [(hq, .inr (6, [.ref hr1, .ref hs, .int (iZ lt)])), (hr1, .inr (4, [.ref tx, .ref kw, .int (iZ (I_191 1)), .int (iZ (I_191 2)), .int (iZ (I_191 3)), .int (iZ (I_191 4)), .int (iZ (I_191 5)), .int (iZ (I_191 6)), .int (iZ (I_191 7)), .long (L_192 1), .int (iZ (I_191 8)), .int (iZ (I_191 9))])), (tx, .inl (k 0, 900, .inl bf)), (kw, .inl (k 2, 25, .inr (.inl kwf))), (hs, .inr (5, [.ref hN, .ref hf, .ref hg, .int (iZ n), .int (iZ ni), .int (iZ lw), .int (iZ we)])), (hN, .inl (k 2, 6, .inr (.inl (G_10 0)))), (hf, .inl (k 1, 36, .inl (F_193 0))), (hg, .inl (k 1, 32, .inl g))]) (wr := []) hx hb hml hown hts hKK hP hD hS hA (k_readFact l D k hq hr1 tx kw lt (I_191 1) (I_191 2) (I_191 3) (I_191 4) (I_191 5) (I_191 6) (I_191 7) (I_191 8) (I_191 9) (L_192 1) bf kwf hs hN hf hg n ni lw we (G_10 0) (F_193 0) g 5 4 0 99 (by first | with_reducible assumption | exact ⟨⟨by omega, by omega⟩, ⟨by omega, by omega⟩, ⟨by omega, by omega⟩, by omega, ⟨by omega, by omega⟩, ⟨by omega, by omega⟩, by omega, by omega⟩) ⟨by omega, by omega⟩ ⟨by omega, by omega⟩ ⟨by omega, by omega⟩ ⟨by omega, by omega⟩ ⟨by omega, by omega⟩) ci_X6_readFact qm_X6_60 ⟨Nat.le_of_ble_eq_true rfl, Nat.le_of_ble_eq_true rfl⟩ ⟨Nat.le_of_ble_eq_true rfl, Nat.le_of_ble_eq_true rfl⟩ [0, 1, 2, 3, 4, 5, 6, 7] [] rfl rfl rfl rfl rfl (by decide) 0 rfl rfl rfl hl.1 rfl (Nat.le_of_ble_eq_true rfl) dX6_readRock_133 (fun u_234 H locs hφ hP hD hS => ?_)
                  obtain ⟨I_235, L_236, F_237, G_238⟩ := u_234
                  obtain ⟨p_240, p_241, p_242⟩ : ((0 ≤ (I_235 1) ∧ (I_235 1) ≤ 900) ∧ (0 ≤ (I_235 2) ∧ (I_235 2) ≤ 900) ∧ (0 ≤ (I_235 3) ∧ (I_235 3) ≤ (I_235 4)) ∧ ((I_235 4) ≤ (I_235 2)) ∧ (0 ≤ (I_235 5) ∧ (I_235 5) ≤ 4) ∧ (-2147483648 ≤ (I_235 6) ∧ (I_235 6) < 2147483648) ∧ (-1 ≤ (I_235 7) ∧ (I_235 7) ≤ 24)) ∧ ((I_235 1) = (I_191 1)) ∧ ((I_235 0) = 0 ∨ ((I_235 0) = 1 ∧ ∃ v6 : Int, 0 ≤ v6 ∧ v6 ≤ 99 ∧ (F_237 0) = upd (F_193 0) (iZ ((n * 6) + 4)).toNatClampNeg (iZ v6))) := hφ
                  refine W.eq (g2 := F0 m 136 ls [.int (iZ (I_235 0))]) rfl ?_
                  rcases p_242 with qt_243 | ⟨qt_243, vt_243, g1t_243, g2t_243, ht_243⟩
                  ·
                    rw [qt_243]
                    refine lv_istore_n (lv' := [(2, .int (iZ 0)), (1, .int (iZ n)), (0, .ref hq)]) hx hb dX6_readRock_136 rfl hl (by decide) rfl (fun ls hl => ?_)
                    refine lv_iload_n hx hb dX6_readRock_137 rfl (lv_at hl 0 rfl) ?_
                    refine lv_if_eq (tgt := 164) hx hb dX6_readRock_138 (by decide) (fun _ => ?_) (fun c => absurd (by decide) c)
                    refine lv_iload_n hx hb dX6_readRock_164 rfl (lv_at hl 0 rfl) ?_
                    refine lv_if_eq (tgt := 202) hx hb dX6_readRock_165 (by decide) (fun _ => ?_) (fun c => absurd (by decide) c)
                    refine lv_iload_n hx hb dX6_readRock_202 rfl (lv_at hl 0 rfl) ?_
                    refine lv_if_eq (tgt := 218) hx hb dX6_readRock_203 (by decide) (fun _ => ?_) (fun c => absurd (by decide) c)
                    refine lv_iconst (v := iZ 0) hx hb dX6_readRock_218 (by decide) ?_
                    exact EWz hx hb hr hlocks hS (fun i => [0, (I_235 1), (I_235 2), (I_235 3), (I_235 4), (I_235 5), (I_235 6), (I_235 7), (I_235 8), (I_235 9), n, we].getD i 0, fun i => [0, (L_236 1)].getD i 0, fun i => [(F_237 0)].getD i (fun _ => 0), fun i => [(G_10 0)].getD i (fun _ => 0)) rfl rfl ⟨(show (0 ≤ (I_235 1) ∧ (I_235 1) ≤ 900) ∧ (0 ≤ (I_235 2) ∧ (I_235 2) ≤ 900) ∧ (0 ≤ (I_235 3) ∧ (I_235 3) ≤ (I_235 4)) ∧ ((I_235 4) ≤ (I_235 2)) ∧ (0 ≤ (I_235 5) ∧ (I_235 5) ≤ 4) ∧ (-2147483648 ≤ (I_235 6) ∧ (I_235 6) < 2147483648) ∧ (-1 ≤ (I_235 7) ∧ (I_235 7) ≤ 24) from (by first | with_reducible assumption | exact ⟨⟨by omega, by omega⟩, ⟨by omega, by omega⟩, ⟨by omega, by omega⟩, by omega, ⟨by omega, by omega⟩, ⟨by omega, by omega⟩, by omega, by omega⟩)), (show (I_235 1) = tp from (by omega)), (show -2147483648 ≤ we ∧ we < 2147483648 from ⟨by omega, by omega⟩), (show 0 = 0 ∨ (0 = 1 ∧ (0 ≤ n ∧ n ≤ 6) ∧ SKZ (F_237 0) n) from (Or.inl rfl))⟩ (hP.sub [0, 1, 2, 3, 4, 5, 6, 7] rfl) (hD.sub [0, 1, 2, 3, 4, 5, 6, 7] rfl rfl) dX6_readRock_219
                  ·
                    rw [qt_243]
                    have sk_247 : SKR _ n 1 := SKR.up (w := 4) sk_203 ht_243 ⟨by omega, by omega⟩ (by omega)
                    refine lv_istore_n (lv' := [(2, .int (iZ 1)), (1, .int (iZ n)), (0, .ref hq)]) hx hb dX6_readRock_136 rfl hl (by decide) rfl (fun ls hl => ?_)
                    refine lv_iload_n hx hb dX6_readRock_137 rfl (lv_at hl 0 rfl) ?_
                    refine lv_if_eq (tgt := 164) hx hb dX6_readRock_138 (by decide) (fun c => absurd c (by decide)) (fun _ => ?_)
                    refine lv_aload_n hx hb dX6_readRock_141 rfl (lv_at hl 2 rfl) ?_
                    refine va_get (D := D) (ci := 6) (v := .ref hr1) (C := RX6) (T := TX6) (N := 3) hx hb hts iX6 hown hK hP 0 rfl rfl 0 (by decide) (hts _ qf_X6_9) (fun _ h => h) rfl dX6_readRock_142 ?_
                    refine va_get (D := D) (ci := 4) (v := .int (iZ (I_235 7))) (C := RX4) (T := TX4) (N := 12) hx hb hts iX4 hown hK hP 1 rfl rfl 8 (by decide) (hts _ qf_X6_34) (fun _ h => h) rfl dX6_readRock_145 ?_
                    refine lv_bipush (v := iZ 6) hx hb dX6_readRock_148 (by decide) ?_
                    refine lv_icmp_ne (tgt := 164) hx hb dX6_readRock_150 (by decide) (fun c_249 => ?_) (fun c_249 => ?_)
                    ·
                      have c_249 := mt (zeq (x := iZ (I_235 7)) (y := iZ 6) rfl rfl ⟨by omega, by omega⟩ ⟨by omega, by omega⟩).mpr c_249
                      refine lv_iload_n hx hb dX6_readRock_164 rfl (lv_at hl 0 rfl) ?_
                      refine lv_if_eq (tgt := 202) hx hb dX6_readRock_165 (by decide) (fun c => absurd c (by decide)) (fun _ => ?_)
                      refine lv_aload_n hx hb dX6_readRock_168 rfl (lv_at hl 2 rfl) ?_
                      refine va_get (D := D) (ci := 6) (v := .ref hr1) (C := RX6) (T := TX6) (N := 3) hx hb hts iX6 hown hK hP 0 rfl rfl 0 (by decide) (hts _ qf_X6_9) (fun _ h => h) rfl dX6_readRock_169 ?_
                      refine va_get (D := D) (ci := 4) (v := .int (iZ (I_235 7))) (C := RX4) (T := TX4) (N := 12) hx hb hts iX4 hown hK hP 1 rfl rfl 8 (by decide) (hts _ qf_X6_34) (fun _ h => h) rfl dX6_readRock_172 ?_
                      refine lv_bipush (v := iZ 7) hx hb dX6_readRock_175 (by decide) ?_
                      refine lv_icmp_ne (tgt := 202) hx hb dX6_readRock_177 (by decide) (fun c_251 => ?_) (fun c_251 => ?_)
                      ·
                        have c_251 := mt (zeq (x := iZ (I_235 7)) (y := iZ 7) rfl rfl ⟨by omega, by omega⟩ ⟨by omega, by omega⟩).mpr c_251
                        refine lv_iload_n hx hb dX6_readRock_202 rfl (lv_at hl 0 rfl) ?_
                        refine lv_if_eq (tgt := 218) hx hb dX6_readRock_203 (by decide) (fun c => absurd c (by decide)) (fun _ => ?_)
                        refine lv_aload_n hx hb dX6_readRock_206 rfl (lv_at hl 2 rfl) ?_
                        refine va_get (D := D) (ci := 6) (v := .ref hr1) (C := RX6) (T := TX6) (N := 3) hx hb hts iX6 hown hK hP 0 rfl rfl 0 (by decide) (hts _ qf_X6_9) (fun _ h => h) rfl dX6_readRock_207 ?_
                        refine lv_bipush (v := iZ 59) hx hb dX6_readRock_210 (by decide) ?_
                        refine CWV (As := [.int (iZ 59)]) (rest := []) (wc := [(hr1, .inr (4, [.ref tx, .ref kw, .int (iZ (I_235 1)), .int (iZ (I_235 2)), .int (iZ (I_235 3)), .int (iZ (I_235 4)), .int (iZ (I_235 5)), .int (iZ (I_235 6)), .int (iZ (I_235 7)), .long (L_236 1), .int (iZ (I_235 8)), .int (iZ (I_235 9))])), (tx, .inl (k 0, 900, .inl bf)), (kw, .inl (k 2, 25, .inr (.inl kwf)))]) (wr := [(hq, .inr (6, [.ref hr1, .ref hs, .int (iZ lt)])), (hs, .inr (5, [.ref hN, .ref hf, .ref hg, .int (iZ n), .int (iZ ni), .int (iZ lw), .int (iZ we)])), (hN, .inl (k 2, 6, .inr (.inl (G_10 0)))), (hf, .inl (k 1, 36, .inl (F_237 0))), (hg, .inl (k 1, 32, .inl g))]) hx hb hml hown hts hKK hP hD hS hA (k_takeSign l D k hr1 tx kw bf kwf (I_235 1) (I_235 2) (I_235 3) (I_235 4) (I_235 5) (I_235 6) (I_235 7) (I_235 8) (I_235 9) (L_236 1) (show RDI _ from (show (0 ≤ (I_235 1) ∧ (I_235 1) ≤ 900) ∧ (0 ≤ (I_235 2) ∧ (I_235 2) ≤ 900) ∧ (0 ≤ (I_235 3) ∧ (I_235 3) ≤ (I_235 4)) ∧ ((I_235 4) ≤ (I_235 2)) ∧ (0 ≤ (I_235 5) ∧ (I_235 5) ≤ 4) ∧ (-2147483648 ≤ (I_235 6) ∧ (I_235 6) < 2147483648) ∧ (-1 ≤ (I_235 7) ∧ (I_235 7) ≤ 24) from ⟨⟨by omega, by omega⟩, ⟨by omega, by omega⟩, ⟨by omega, by omega⟩, by omega, ⟨by omega, by omega⟩, ⟨by omega, by omega⟩, by omega, by omega⟩)) 59 ⟨by omega, by omega⟩) ci_X4_takeSign qm_X6_67 ⟨Nat.le_of_ble_eq_true rfl, Nat.le_of_ble_eq_true rfl⟩ ⟨Nat.le_of_ble_eq_true rfl, Nat.le_of_ble_eq_true rfl⟩ [1, 2, 3] [0, 4, 5, 6, 7] rfl rfl rfl rfl rfl (by decide) 0 rfl rfl rfl hl.1 rfl (Nat.le_of_ble_eq_true rfl) dX6_readRock_212 (fun u_253 H locs hφ hP hD hS => ?_)
                        obtain ⟨I_254, nm_255⟩ := u_253
                        obtain ⟨ah_256, b1h_256, b2h_256, b3h_256, b4h_256, b5h_256, b6h_256, b7h_256⟩ := hφ
                        dsimp only at ah_256 b1h_256 b2h_256 b3h_256 b4h_256 b5h_256 b6h_256 b7h_256
                        refine W.eq (g2 := F0 m 215 ls [.int (iZ (I_254 0))]) rfl ?_
                        rcases (show ((I_254 0) = 0) ∨ ((I_254 0) = 1) from (by omega)) with s_257 | s_257
                        ·
                          rw [s_257]
                          refine lv_if_ne (tgt := 220) hx hb dX6_readRock_215 (by decide) (fun c => absurd (by decide) c) (fun _ => ?_)
                          refine lv_iconst (v := iZ 0) hx hb dX6_readRock_218 (by decide) ?_
                          exact EWz hx hb hr hlocks hS (fun i => [0, (I_254 1), (I_254 2), (I_254 3), (I_254 4), (I_254 5), (I_254 6), (I_254 7), (I_254 8), (I_254 9), n, we].getD i 0, fun i => [0, nm_255].getD i 0, fun i => [(F_237 0)].getD i (fun _ => 0), fun i => [(G_10 0)].getD i (fun _ => 0)) rfl rfl ⟨(show (0 ≤ (I_254 1) ∧ (I_254 1) ≤ 900) ∧ (0 ≤ (I_254 2) ∧ (I_254 2) ≤ 900) ∧ (0 ≤ (I_254 3) ∧ (I_254 3) ≤ (I_254 4)) ∧ ((I_254 4) ≤ (I_254 2)) ∧ (0 ≤ (I_254 5) ∧ (I_254 5) ≤ 4) ∧ (-2147483648 ≤ (I_254 6) ∧ (I_254 6) < 2147483648) ∧ (-1 ≤ (I_254 7) ∧ (I_254 7) ≤ 24) from (by first | with_reducible assumption | exact ⟨⟨by omega, by omega⟩, ⟨by omega, by omega⟩, ⟨by omega, by omega⟩, by omega, ⟨by omega, by omega⟩, ⟨by omega, by omega⟩, by omega, by omega⟩)), (show (I_254 1) = tp from (by omega)), (show -2147483648 ≤ we ∧ we < 2147483648 from ⟨by omega, by omega⟩), (show 0 = 0 ∨ (0 = 1 ∧ (0 ≤ n ∧ n ≤ 6) ∧ SKZ (F_237 0) n) from (Or.inl rfl))⟩ (hP.sub [0, 5, 6, 7, 1, 2, 3, 4] rfl) (hD.sub [0, 5, 6, 7, 1, 2, 3, 4] rfl rfl) dX6_readRock_219
                        ·
                          rw [s_257]
                          refine lv_if_ne (tgt := 220) hx hb dX6_readRock_215 (by decide) (fun _ => ?_) (fun c => absurd c (by decide))
                          refine lv_aload_n hx hb dX6_readRock_220 rfl (lv_at hl 2 rfl) ?_
                          refine va_get (D := D) (ci := 6) (v := .ref hs) (C := RX6) (T := TX6) (N := 3) hx hb hts iX6 hown hK hP 0 rfl rfl 1 (by decide) (hts _ qf_X6_15) (fun _ h => h) rfl dX6_readRock_221 ?_
                          refine lv_dup hx hb dX6_readRock_224 rfl ?_
                          refine va_get (D := D) (ci := 5) (v := .int (iZ n)) (C := RX5) (T := TX5) (N := 7) hx hb hts iX5 hown hK hP 1 rfl rfl 3 (by decide) (hts _ qf_X6_51) (fun _ h => h) rfl dX6_readRock_225 ?_
                          refine lv_iconst (v := iZ 1) hx hb dX6_readRock_228 (by decide) ?_
                          refine lv_iadd hx hb dX6_readRock_229 ?_
                          refine lv_topi (fun x_260 ex_260 => ?_)
                          obtain rfl : x_260 = iZ (n + 1) := ex_260.trans (iZ_add n 1)
                          refine va_put (D := D) (ci := 5) (v := .int (iZ (n + 1))) (ty := .int) (C := RX5) (T := TX5) (N := 7) hx hb hts iX5 tyX5 tyX5_ok nmX5 hown hK hP hD hS 1 rfl rfl 3 (by decide) (hts _ qf_X6_51) (fun _ h => h) rfl (by decide +kernel) rfl rfl (Nat.le_of_ble_eq_true rfl) dX6_readRock_230 (fun H locs hP hD hS => ?_)
                          refine lv_iconst (v := iZ 1) hx hb dX6_readRock_233 (by decide) ?_
                          exact EWz hx hb hr hlocks hS (fun i => [1, (I_254 1), (I_254 2), (I_254 3), (I_254 4), (I_254 5), (I_254 6), (I_254 7), (I_254 8), (I_254 9), (n + 1), we].getD i 0, fun i => [0, nm_255].getD i 0, fun i => [(F_237 0)].getD i (fun _ => 0), fun i => [(G_10 0)].getD i (fun _ => 0)) rfl rfl ⟨(show (0 ≤ (I_254 1) ∧ (I_254 1) ≤ 900) ∧ (0 ≤ (I_254 2) ∧ (I_254 2) ≤ 900) ∧ (0 ≤ (I_254 3) ∧ (I_254 3) ≤ (I_254 4)) ∧ ((I_254 4) ≤ (I_254 2)) ∧ (0 ≤ (I_254 5) ∧ (I_254 5) ≤ 4) ∧ (-2147483648 ≤ (I_254 6) ∧ (I_254 6) < 2147483648) ∧ (-1 ≤ (I_254 7) ∧ (I_254 7) ≤ 24) from (by first | with_reducible assumption | exact ⟨⟨by omega, by omega⟩, ⟨by omega, by omega⟩, ⟨by omega, by omega⟩, by omega, ⟨by omega, by omega⟩, ⟨by omega, by omega⟩, by omega, by omega⟩)), (show (I_254 1) = tp from (by omega)), (show -2147483648 ≤ we ∧ we < 2147483648 from ⟨by omega, by omega⟩), (show 1 = 0 ∨ (1 = 1 ∧ (0 ≤ (n + 1) ∧ (n + 1) ≤ 6) ∧ SKZ (F_237 0) (n + 1)) from (Or.inr ⟨rfl, ⟨by omega, SKR.skz sk_247 ⟨by omega, by omega⟩⟩⟩))⟩ (hP.sub [0, 5, 6, 7, 1, 2, 3, 4] rfl) (hD.sub [0, 5, 6, 7, 1, 2, 3, 4] rfl rfl) dX6_readRock_234
                      ·
                        have c_251 := (zeq (x := iZ (I_235 7)) (y := iZ 7) rfl rfl ⟨by omega, by omega⟩ ⟨by omega, by omega⟩).mp c_251
                        refine lv_aload_n hx hb dX6_readRock_180 rfl (lv_at hl 2 rfl) ?_
                        refine va_get (D := D) (ci := 6) (v := .ref hr1) (C := RX6) (T := TX6) (N := 3) hx hb hts iX6 hown hK hP 0 rfl rfl 0 (by decide) (hts _ qf_X6_9) (fun _ h => h) rfl dX6_readRock_181 ?_
                        refine CWV (As := []) (rest := []) (wc := [(hr1, .inr (4, [.ref tx, .ref kw, .int (iZ (I_235 1)), .int (iZ (I_235 2)), .int (iZ (I_235 3)), .int (iZ (I_235 4)), .int (iZ (I_235 5)), .int (iZ (I_235 6)), .int (iZ (I_235 7)), .long (L_236 1), .int (iZ (I_235 8)), .int (iZ (I_235 9))])), (tx, .inl (k 0, 900, .inl bf)), (kw, .inl (k 2, 25, .inr (.inl kwf)))]) (wr := [(hq, .inr (6, [.ref hr1, .ref hs, .int (iZ lt)])), (hs, .inr (5, [.ref hN, .ref hf, .ref hg, .int (iZ n), .int (iZ ni), .int (iZ lw), .int (iZ we)])), (hN, .inl (k 2, 6, .inr (.inl (G_10 0)))), (hf, .inl (k 1, 36, .inl (F_237 0))), (hg, .inl (k 1, 32, .inl g))]) hx hb hml hown hts hKK hP hD hS hA (k_next l D k hr1 tx kw bf kwf (I_235 1) (I_235 2) (I_235 3) (I_235 4) (I_235 5) (I_235 6) (I_235 7) (I_235 8) (I_235 9) (L_236 1) (show RDI _ from (show (0 ≤ (I_235 1) ∧ (I_235 1) ≤ 900) ∧ (0 ≤ (I_235 2) ∧ (I_235 2) ≤ 900) ∧ (0 ≤ (I_235 4) ∧ (I_235 4) ≤ (I_235 4)) ∧ ((I_235 4) ≤ (I_235 2)) ∧ (0 ≤ (I_235 5) ∧ (I_235 5) ≤ 4) ∧ (-2147483648 ≤ (0 : Int) ∧ (0 : Int) < 2147483648) ∧ (-1 ≤ (-1 : Int) ∧ (-1 : Int) ≤ 24) from ⟨⟨by omega, by omega⟩, ⟨by omega, by omega⟩, ⟨by omega, by omega⟩, by omega, ⟨by omega, by omega⟩, ⟨by omega, by omega⟩, by omega, by omega⟩))) ci_X4_next qm_X6_54 ⟨Nat.le_of_ble_eq_true rfl, Nat.le_of_ble_eq_true rfl⟩ ⟨Nat.le_of_ble_eq_true rfl, Nat.le_of_ble_eq_true rfl⟩ [1, 2, 3] [0, 4, 5, 6, 7] rfl rfl rfl rfl rfl (by decide) 0 rfl rfl rfl hl.1 rfl (Nat.le_of_ble_eq_true rfl) dX6_readRock_184 (fun u_261 H locs hφ hP hD hS => ?_)
                        obtain ⟨I_262, nm_263⟩ := u_261
                        obtain ⟨ah_264, b1h_264, b2h_264, b3h_264, b4h_264, b5h_264, b6h_264, b7h_264⟩ := hφ
                        dsimp only at ah_264 b1h_264 b2h_264 b3h_264 b4h_264 b5h_264 b6h_264 b7h_264
                        refine W.eq (g2 := F0 m 187 ls []) rfl ?_
                        refine lv_aload_n hx hb dX6_readRock_187 rfl (lv_at hl 2 rfl) ?_
                        refine va_get (D := D) (ci := 6) (v := .ref hs) (C := RX6) (T := TX6) (N := 3) hx hb hts iX6 hown hK hP 0 rfl rfl 1 (by decide) (hts _ qf_X6_15) (fun _ h => h) rfl dX6_readRock_188 ?_
                        refine lv_dup hx hb dX6_readRock_191 rfl ?_
                        refine va_get (D := D) (ci := 5) (v := .int (iZ we)) (C := RX5) (T := TX5) (N := 7) hx hb hts iX5 hown hK hP 1 rfl rfl 6 (by decide) (hts _ qf_X6_64) (fun _ h => h) rfl dX6_readRock_192 ?_
                        refine lv_iconst (v := iZ 1) hx hb dX6_readRock_195 (by decide) ?_
                        refine lv_iload_n hx hb dX6_readRock_196 rfl (lv_at hl 1 rfl) ?_
                        refine lv_ishl hx hb dX6_readRock_197 ?_
                        refine lv_topi (fun x_266 ex_266 => ?_)
                        obtain ⟨z_265, hz_265, hz_265a, hz_265b⟩ := i32_z x_266
                        subst hz_265
                        refine lv_ior hx hb dX6_readRock_198 ?_
                        refine lv_topi (fun x_268 ex_268 => ?_)
                        obtain ⟨z_267, hz_267, hz_267a, hz_267b⟩ := i32_z x_268
                        subst hz_267
                        refine va_put (D := D) (ci := 5) (v := .int (iZ z_267)) (ty := .int) (C := RX5) (T := TX5) (N := 7) hx hb hts iX5 tyX5 tyX5_ok nmX5 hown hK hP hD hS 1 rfl rfl 6 (by decide) (hts _ qf_X6_64) (fun _ h => h) rfl (by decide +kernel) rfl rfl (Nat.le_of_ble_eq_true rfl) dX6_readRock_199 (fun H locs hP hD hS => ?_)
                        refine lv_iload_n hx hb dX6_readRock_202 rfl (lv_at hl 0 rfl) ?_
                        refine lv_if_eq (tgt := 218) hx hb dX6_readRock_203 (by decide) (fun c => absurd c (by decide)) (fun _ => ?_)
                        refine lv_aload_n hx hb dX6_readRock_206 rfl (lv_at hl 2 rfl) ?_
                        refine va_get (D := D) (ci := 6) (v := .ref hr1) (C := RX6) (T := TX6) (N := 3) hx hb hts iX6 hown hK hP 0 rfl rfl 0 (by decide) (hts _ qf_X6_9) (fun _ h => h) rfl dX6_readRock_207 ?_
                        refine lv_bipush (v := iZ 59) hx hb dX6_readRock_210 (by decide) ?_
                        refine CWV (As := [.int (iZ 59)]) (rest := []) (wc := [(hr1, .inr (4, [.ref tx, .ref kw, .int (iZ (I_262 1)), .int (iZ (I_262 2)), .int (iZ (I_262 3)), .int (iZ (I_262 4)), .int (iZ (I_262 5)), .int (iZ (I_262 6)), .int (iZ (I_262 7)), .long nm_263, .int (iZ (I_262 8)), .int (iZ (I_262 9))])), (tx, .inl (k 0, 900, .inl bf)), (kw, .inl (k 2, 25, .inr (.inl kwf)))]) (wr := [(hq, .inr (6, [.ref hr1, .ref hs, .int (iZ lt)])), (hs, .inr (5, [.ref hN, .ref hf, .ref hg, .int (iZ n), .int (iZ ni), .int (iZ lw), .int (iZ z_267)])), (hN, .inl (k 2, 6, .inr (.inl (G_10 0)))), (hf, .inl (k 1, 36, .inl (F_237 0))), (hg, .inl (k 1, 32, .inl g))]) hx hb hml hown hts hKK hP hD hS hA (k_takeSign l D k hr1 tx kw bf kwf (I_262 1) (I_262 2) (I_262 3) (I_262 4) (I_262 5) (I_262 6) (I_262 7) (I_262 8) (I_262 9) nm_263 (show RDI _ from (show (0 ≤ (I_262 1) ∧ (I_262 1) ≤ 900) ∧ (0 ≤ (I_262 2) ∧ (I_262 2) ≤ 900) ∧ (0 ≤ (I_262 3) ∧ (I_262 3) ≤ (I_262 4)) ∧ ((I_262 4) ≤ (I_262 2)) ∧ (0 ≤ (I_262 5) ∧ (I_262 5) ≤ 4) ∧ (-2147483648 ≤ (I_262 6) ∧ (I_262 6) < 2147483648) ∧ (-1 ≤ (I_262 7) ∧ (I_262 7) ≤ 24) from ⟨⟨by omega, by omega⟩, ⟨by omega, by omega⟩, ⟨by omega, by omega⟩, by omega, ⟨by omega, by omega⟩, ⟨by omega, by omega⟩, by omega, by omega⟩)) 59 ⟨by omega, by omega⟩) ci_X4_takeSign qm_X6_67 ⟨Nat.le_of_ble_eq_true rfl, Nat.le_of_ble_eq_true rfl⟩ ⟨Nat.le_of_ble_eq_true rfl, Nat.le_of_ble_eq_true rfl⟩ [5, 6, 7] [0, 1, 2, 3, 4] rfl rfl rfl rfl rfl (by decide) 0 rfl rfl rfl hl.1 rfl (Nat.le_of_ble_eq_true rfl) dX6_readRock_212 (fun u_270 H locs hφ hP hD hS => ?_)
                        obtain ⟨I_271, nm_272⟩ := u_270
                        obtain ⟨ah_273, b1h_273, b2h_273, b3h_273, b4h_273, b5h_273, b6h_273, b7h_273⟩ := hφ
                        dsimp only at ah_273 b1h_273 b2h_273 b3h_273 b4h_273 b5h_273 b6h_273 b7h_273
                        refine W.eq (g2 := F0 m 215 ls [.int (iZ (I_271 0))]) rfl ?_
                        rcases (show ((I_271 0) = 0) ∨ ((I_271 0) = 1) from (by omega)) with s_274 | s_274
                        ·
                          rw [s_274]
                          refine lv_if_ne (tgt := 220) hx hb dX6_readRock_215 (by decide) (fun c => absurd (by decide) c) (fun _ => ?_)
                          refine lv_iconst (v := iZ 0) hx hb dX6_readRock_218 (by decide) ?_
                          exact EWz hx hb hr hlocks hS (fun i => [0, (I_271 1), (I_271 2), (I_271 3), (I_271 4), (I_271 5), (I_271 6), (I_271 7), (I_271 8), (I_271 9), n, z_267].getD i 0, fun i => [0, nm_272].getD i 0, fun i => [(F_237 0)].getD i (fun _ => 0), fun i => [(G_10 0)].getD i (fun _ => 0)) rfl rfl ⟨(show (0 ≤ (I_271 1) ∧ (I_271 1) ≤ 900) ∧ (0 ≤ (I_271 2) ∧ (I_271 2) ≤ 900) ∧ (0 ≤ (I_271 3) ∧ (I_271 3) ≤ (I_271 4)) ∧ ((I_271 4) ≤ (I_271 2)) ∧ (0 ≤ (I_271 5) ∧ (I_271 5) ≤ 4) ∧ (-2147483648 ≤ (I_271 6) ∧ (I_271 6) < 2147483648) ∧ (-1 ≤ (I_271 7) ∧ (I_271 7) ≤ 24) from (by first | with_reducible assumption | exact ⟨⟨by omega, by omega⟩, ⟨by omega, by omega⟩, ⟨by omega, by omega⟩, by omega, ⟨by omega, by omega⟩, ⟨by omega, by omega⟩, by omega, by omega⟩)), (show (I_271 1) = tp from (by omega)), (show -2147483648 ≤ z_267 ∧ z_267 < 2147483648 from ⟨by omega, by omega⟩), (show 0 = 0 ∨ (0 = 1 ∧ (0 ≤ n ∧ n ≤ 6) ∧ SKZ (F_237 0) n) from (Or.inl rfl))⟩ (hP.sub [0, 5, 6, 7, 1, 2, 3, 4] rfl) (hD.sub [0, 5, 6, 7, 1, 2, 3, 4] rfl rfl) dX6_readRock_219
                        ·
                          rw [s_274]
                          refine lv_if_ne (tgt := 220) hx hb dX6_readRock_215 (by decide) (fun _ => ?_) (fun c => absurd c (by decide))
                          refine lv_aload_n hx hb dX6_readRock_220 rfl (lv_at hl 2 rfl) ?_
                          refine va_get (D := D) (ci := 6) (v := .ref hs) (C := RX6) (T := TX6) (N := 3) hx hb hts iX6 hown hK hP 0 rfl rfl 1 (by decide) (hts _ qf_X6_15) (fun _ h => h) rfl dX6_readRock_221 ?_
                          refine lv_dup hx hb dX6_readRock_224 rfl ?_
                          refine va_get (D := D) (ci := 5) (v := .int (iZ n)) (C := RX5) (T := TX5) (N := 7) hx hb hts iX5 hown hK hP 1 rfl rfl 3 (by decide) (hts _ qf_X6_51) (fun _ h => h) rfl dX6_readRock_225 ?_
                          refine lv_iconst (v := iZ 1) hx hb dX6_readRock_228 (by decide) ?_
                          refine lv_iadd hx hb dX6_readRock_229 ?_
                          refine lv_topi (fun x_277 ex_277 => ?_)
                          obtain rfl : x_277 = iZ (n + 1) := ex_277.trans (iZ_add n 1)
                          refine va_put (D := D) (ci := 5) (v := .int (iZ (n + 1))) (ty := .int) (C := RX5) (T := TX5) (N := 7) hx hb hts iX5 tyX5 tyX5_ok nmX5 hown hK hP hD hS 1 rfl rfl 3 (by decide) (hts _ qf_X6_51) (fun _ h => h) rfl (by decide +kernel) rfl rfl (Nat.le_of_ble_eq_true rfl) dX6_readRock_230 (fun H locs hP hD hS => ?_)
                          refine lv_iconst (v := iZ 1) hx hb dX6_readRock_233 (by decide) ?_
                          exact EWz hx hb hr hlocks hS (fun i => [1, (I_271 1), (I_271 2), (I_271 3), (I_271 4), (I_271 5), (I_271 6), (I_271 7), (I_271 8), (I_271 9), (n + 1), z_267].getD i 0, fun i => [0, nm_272].getD i 0, fun i => [(F_237 0)].getD i (fun _ => 0), fun i => [(G_10 0)].getD i (fun _ => 0)) rfl rfl ⟨(show (0 ≤ (I_271 1) ∧ (I_271 1) ≤ 900) ∧ (0 ≤ (I_271 2) ∧ (I_271 2) ≤ 900) ∧ (0 ≤ (I_271 3) ∧ (I_271 3) ≤ (I_271 4)) ∧ ((I_271 4) ≤ (I_271 2)) ∧ (0 ≤ (I_271 5) ∧ (I_271 5) ≤ 4) ∧ (-2147483648 ≤ (I_271 6) ∧ (I_271 6) < 2147483648) ∧ (-1 ≤ (I_271 7) ∧ (I_271 7) ≤ 24) from (by first | with_reducible assumption | exact ⟨⟨by omega, by omega⟩, ⟨by omega, by omega⟩, ⟨by omega, by omega⟩, by omega, ⟨by omega, by omega⟩, ⟨by omega, by omega⟩, by omega, by omega⟩)), (show (I_271 1) = tp from (by omega)), (show -2147483648 ≤ z_267 ∧ z_267 < 2147483648 from ⟨by omega, by omega⟩), (show 1 = 0 ∨ (1 = 1 ∧ (0 ≤ (n + 1) ∧ (n + 1) ≤ 6) ∧ SKZ (F_237 0) (n + 1)) from (Or.inr ⟨rfl, ⟨by omega, SKR.skz sk_247 ⟨by omega, by omega⟩⟩⟩))⟩ (hP.sub [0, 5, 6, 7, 1, 2, 3, 4] rfl) (hD.sub [0, 5, 6, 7, 1, 2, 3, 4] rfl rfl) dX6_readRock_234
                    ·
                      have c_249 := (zeq (x := iZ (I_235 7)) (y := iZ 6) rfl rfl ⟨by omega, by omega⟩ ⟨by omega, by omega⟩).mp c_249
                      refine lv_aload_n hx hb dX6_readRock_153 rfl (lv_at hl 2 rfl) ?_
                      refine lv_bipush (v := iZ 6) hx hb dX6_readRock_154 (by decide) ?_
                      refine lv_iconst (v := iZ 5) hx hb dX6_readRock_156 (by decide) ?_
                      refine lv_iconst (v := iZ 0) hx hb dX6_readRock_157 (by decide) ?_
                      refine lv_bipush (v := iZ 20) hx hb dX6_readRock_158 (by decide) ?_
                      refine CWV (As := [.int (iZ 6), .int (iZ 5), .int (iZ 0), .int (iZ 20)]) (rest := []) (wc := [(hq, .inr (6, [.ref hr1, .ref hs, .int (iZ lt)])), (hr1, .inr (4, [.ref tx, .ref kw, .int (iZ (I_235 1)), .int (iZ (I_235 2)), .int (iZ (I_235 3)), .int (iZ (I_235 4)), .int (iZ (I_235 5)), .int (iZ (I_235 6)), .int (iZ (I_235 7)), .long (L_236 1), .int (iZ (I_235 8)), .int (iZ (I_235 9))])), (tx, .inl (k 0, 900, .inl bf)), (kw, .inl (k 2, 25, .inr (.inl kwf))), (hs, .inr (5, [.ref hN, .ref hf, .ref hg, .int (iZ n), .int (iZ ni), .int (iZ lw), .int (iZ we)])), (hN, .inl (k 2, 6, .inr (.inl (G_10 0)))), (hf, .inl (k 1, 36, .inl (F_237 0))), (hg, .inl (k 1, 32, .inl g))]) (wr := []) hx hb hml hown hts hKK hP hD hS hA (k_readFact l D k hq hr1 tx kw lt (I_235 1) (I_235 2) (I_235 3) (I_235 4) (I_235 5) (I_235 6) (I_235 7) (I_235 8) (I_235 9) (L_236 1) bf kwf hs hN hf hg n ni lw we (G_10 0) (F_237 0) g 6 5 0 20 (by first | with_reducible assumption | exact ⟨⟨by omega, by omega⟩, ⟨by omega, by omega⟩, ⟨by omega, by omega⟩, by omega, ⟨by omega, by omega⟩, ⟨by omega, by omega⟩, by omega, by omega⟩) ⟨by omega, by omega⟩ ⟨by omega, by omega⟩ ⟨by omega, by omega⟩ ⟨by omega, by omega⟩ ⟨by omega, by omega⟩) ci_X6_readFact qm_X6_60 ⟨Nat.le_of_ble_eq_true rfl, Nat.le_of_ble_eq_true rfl⟩ ⟨Nat.le_of_ble_eq_true rfl, Nat.le_of_ble_eq_true rfl⟩ [0, 1, 2, 3, 4, 5, 6, 7] [] rfl rfl rfl rfl rfl (by decide) 0 rfl rfl rfl hl.1 rfl (Nat.le_of_ble_eq_true rfl) dX6_readRock_160 (fun u_278 H locs hφ hP hD hS => ?_)
                      obtain ⟨I_279, L_280, F_281, G_282⟩ := u_278
                      obtain ⟨p_284, p_285, p_286⟩ : ((0 ≤ (I_279 1) ∧ (I_279 1) ≤ 900) ∧ (0 ≤ (I_279 2) ∧ (I_279 2) ≤ 900) ∧ (0 ≤ (I_279 3) ∧ (I_279 3) ≤ (I_279 4)) ∧ ((I_279 4) ≤ (I_279 2)) ∧ (0 ≤ (I_279 5) ∧ (I_279 5) ≤ 4) ∧ (-2147483648 ≤ (I_279 6) ∧ (I_279 6) < 2147483648) ∧ (-1 ≤ (I_279 7) ∧ (I_279 7) ≤ 24)) ∧ ((I_279 1) = (I_235 1)) ∧ ((I_279 0) = 0 ∨ ((I_279 0) = 1 ∧ ∃ v6 : Int, 0 ≤ v6 ∧ v6 ≤ 20 ∧ (F_281 0) = upd (F_237 0) (iZ ((n * 6) + 5)).toNatClampNeg (iZ v6))) := hφ
                      refine W.eq (g2 := F0 m 163 ls [.int (iZ (I_279 0))]) rfl ?_
                      rcases p_286 with qt_287 | ⟨qt_287, vt_287, g1t_287, g2t_287, ht_287⟩
                      ·
                        rw [qt_287]
                        refine lv_istore_n (lv' := [(2, .int (iZ 0)), (1, .int (iZ n)), (0, .ref hq)]) hx hb dX6_readRock_163 rfl hl (by decide) rfl (fun ls hl => ?_)
                        refine lv_iload_n hx hb dX6_readRock_164 rfl (lv_at hl 0 rfl) ?_
                        refine lv_if_eq (tgt := 202) hx hb dX6_readRock_165 (by decide) (fun _ => ?_) (fun c => absurd (by decide) c)
                        refine lv_iload_n hx hb dX6_readRock_202 rfl (lv_at hl 0 rfl) ?_
                        refine lv_if_eq (tgt := 218) hx hb dX6_readRock_203 (by decide) (fun _ => ?_) (fun c => absurd (by decide) c)
                        refine lv_iconst (v := iZ 0) hx hb dX6_readRock_218 (by decide) ?_
                        exact EWz hx hb hr hlocks hS (fun i => [0, (I_279 1), (I_279 2), (I_279 3), (I_279 4), (I_279 5), (I_279 6), (I_279 7), (I_279 8), (I_279 9), n, we].getD i 0, fun i => [0, (L_280 1)].getD i 0, fun i => [(F_281 0)].getD i (fun _ => 0), fun i => [(G_10 0)].getD i (fun _ => 0)) rfl rfl ⟨(show (0 ≤ (I_279 1) ∧ (I_279 1) ≤ 900) ∧ (0 ≤ (I_279 2) ∧ (I_279 2) ≤ 900) ∧ (0 ≤ (I_279 3) ∧ (I_279 3) ≤ (I_279 4)) ∧ ((I_279 4) ≤ (I_279 2)) ∧ (0 ≤ (I_279 5) ∧ (I_279 5) ≤ 4) ∧ (-2147483648 ≤ (I_279 6) ∧ (I_279 6) < 2147483648) ∧ (-1 ≤ (I_279 7) ∧ (I_279 7) ≤ 24) from (by first | with_reducible assumption | exact ⟨⟨by omega, by omega⟩, ⟨by omega, by omega⟩, ⟨by omega, by omega⟩, by omega, ⟨by omega, by omega⟩, ⟨by omega, by omega⟩, by omega, by omega⟩)), (show (I_279 1) = tp from (by omega)), (show -2147483648 ≤ we ∧ we < 2147483648 from ⟨by omega, by omega⟩), (show 0 = 0 ∨ (0 = 1 ∧ (0 ≤ n ∧ n ≤ 6) ∧ SKZ (F_281 0) n) from (Or.inl rfl))⟩ (hP.sub [0, 1, 2, 3, 4, 5, 6, 7] rfl) (hD.sub [0, 1, 2, 3, 4, 5, 6, 7] rfl rfl) dX6_readRock_219
                      ·
                        rw [qt_287]
                        have sk_290 : SKR _ n 1 := SKR.up (w := 5) sk_247 ht_287 ⟨by omega, by omega⟩ (by omega)
                        refine lv_istore_n (lv' := [(2, .int (iZ 1)), (1, .int (iZ n)), (0, .ref hq)]) hx hb dX6_readRock_163 rfl hl (by decide) rfl (fun ls hl => ?_)
                        refine lv_iload_n hx hb dX6_readRock_164 rfl (lv_at hl 0 rfl) ?_
                        refine lv_if_eq (tgt := 202) hx hb dX6_readRock_165 (by decide) (fun c => absurd c (by decide)) (fun _ => ?_)
                        refine lv_aload_n hx hb dX6_readRock_168 rfl (lv_at hl 2 rfl) ?_
                        refine va_get (D := D) (ci := 6) (v := .ref hr1) (C := RX6) (T := TX6) (N := 3) hx hb hts iX6 hown hK hP 0 rfl rfl 0 (by decide) (hts _ qf_X6_9) (fun _ h => h) rfl dX6_readRock_169 ?_
                        refine va_get (D := D) (ci := 4) (v := .int (iZ (I_279 7))) (C := RX4) (T := TX4) (N := 12) hx hb hts iX4 hown hK hP 1 rfl rfl 8 (by decide) (hts _ qf_X6_34) (fun _ h => h) rfl dX6_readRock_172 ?_
                        refine lv_bipush (v := iZ 7) hx hb dX6_readRock_175 (by decide) ?_
                        refine lv_icmp_ne (tgt := 202) hx hb dX6_readRock_177 (by decide) (fun c_292 => ?_) (fun c_292 => ?_)
                        ·
                          have c_292 := mt (zeq (x := iZ (I_279 7)) (y := iZ 7) rfl rfl ⟨by omega, by omega⟩ ⟨by omega, by omega⟩).mpr c_292
                          refine lv_iload_n hx hb dX6_readRock_202 rfl (lv_at hl 0 rfl) ?_
                          refine lv_if_eq (tgt := 218) hx hb dX6_readRock_203 (by decide) (fun c => absurd c (by decide)) (fun _ => ?_)
                          refine lv_aload_n hx hb dX6_readRock_206 rfl (lv_at hl 2 rfl) ?_
                          refine va_get (D := D) (ci := 6) (v := .ref hr1) (C := RX6) (T := TX6) (N := 3) hx hb hts iX6 hown hK hP 0 rfl rfl 0 (by decide) (hts _ qf_X6_9) (fun _ h => h) rfl dX6_readRock_207 ?_
                          refine lv_bipush (v := iZ 59) hx hb dX6_readRock_210 (by decide) ?_
                          refine CWV (As := [.int (iZ 59)]) (rest := []) (wc := [(hr1, .inr (4, [.ref tx, .ref kw, .int (iZ (I_279 1)), .int (iZ (I_279 2)), .int (iZ (I_279 3)), .int (iZ (I_279 4)), .int (iZ (I_279 5)), .int (iZ (I_279 6)), .int (iZ (I_279 7)), .long (L_280 1), .int (iZ (I_279 8)), .int (iZ (I_279 9))])), (tx, .inl (k 0, 900, .inl bf)), (kw, .inl (k 2, 25, .inr (.inl kwf)))]) (wr := [(hq, .inr (6, [.ref hr1, .ref hs, .int (iZ lt)])), (hs, .inr (5, [.ref hN, .ref hf, .ref hg, .int (iZ n), .int (iZ ni), .int (iZ lw), .int (iZ we)])), (hN, .inl (k 2, 6, .inr (.inl (G_10 0)))), (hf, .inl (k 1, 36, .inl (F_281 0))), (hg, .inl (k 1, 32, .inl g))]) hx hb hml hown hts hKK hP hD hS hA (k_takeSign l D k hr1 tx kw bf kwf (I_279 1) (I_279 2) (I_279 3) (I_279 4) (I_279 5) (I_279 6) (I_279 7) (I_279 8) (I_279 9) (L_280 1) (show RDI _ from (show (0 ≤ (I_279 1) ∧ (I_279 1) ≤ 900) ∧ (0 ≤ (I_279 2) ∧ (I_279 2) ≤ 900) ∧ (0 ≤ (I_279 3) ∧ (I_279 3) ≤ (I_279 4)) ∧ ((I_279 4) ≤ (I_279 2)) ∧ (0 ≤ (I_279 5) ∧ (I_279 5) ≤ 4) ∧ (-2147483648 ≤ (I_279 6) ∧ (I_279 6) < 2147483648) ∧ (-1 ≤ (I_279 7) ∧ (I_279 7) ≤ 24) from ⟨⟨by omega, by omega⟩, ⟨by omega, by omega⟩, ⟨by omega, by omega⟩, by omega, ⟨by omega, by omega⟩, ⟨by omega, by omega⟩, by omega, by omega⟩)) 59 ⟨by omega, by omega⟩) ci_X4_takeSign qm_X6_67 ⟨Nat.le_of_ble_eq_true rfl, Nat.le_of_ble_eq_true rfl⟩ ⟨Nat.le_of_ble_eq_true rfl, Nat.le_of_ble_eq_true rfl⟩ [1, 2, 3] [0, 4, 5, 6, 7] rfl rfl rfl rfl rfl (by decide) 0 rfl rfl rfl hl.1 rfl (Nat.le_of_ble_eq_true rfl) dX6_readRock_212 (fun u_294 H locs hφ hP hD hS => ?_)
                          obtain ⟨I_295, nm_296⟩ := u_294
                          obtain ⟨ah_297, b1h_297, b2h_297, b3h_297, b4h_297, b5h_297, b6h_297, b7h_297⟩ := hφ
                          dsimp only at ah_297 b1h_297 b2h_297 b3h_297 b4h_297 b5h_297 b6h_297 b7h_297
                          refine W.eq (g2 := F0 m 215 ls [.int (iZ (I_295 0))]) rfl ?_
                          rcases (show ((I_295 0) = 0) ∨ ((I_295 0) = 1) from (by omega)) with s_298 | s_298
                          ·
                            rw [s_298]
                            refine lv_if_ne (tgt := 220) hx hb dX6_readRock_215 (by decide) (fun c => absurd (by decide) c) (fun _ => ?_)
                            refine lv_iconst (v := iZ 0) hx hb dX6_readRock_218 (by decide) ?_
                            exact EWz hx hb hr hlocks hS (fun i => [0, (I_295 1), (I_295 2), (I_295 3), (I_295 4), (I_295 5), (I_295 6), (I_295 7), (I_295 8), (I_295 9), n, we].getD i 0, fun i => [0, nm_296].getD i 0, fun i => [(F_281 0)].getD i (fun _ => 0), fun i => [(G_10 0)].getD i (fun _ => 0)) rfl rfl ⟨(show (0 ≤ (I_295 1) ∧ (I_295 1) ≤ 900) ∧ (0 ≤ (I_295 2) ∧ (I_295 2) ≤ 900) ∧ (0 ≤ (I_295 3) ∧ (I_295 3) ≤ (I_295 4)) ∧ ((I_295 4) ≤ (I_295 2)) ∧ (0 ≤ (I_295 5) ∧ (I_295 5) ≤ 4) ∧ (-2147483648 ≤ (I_295 6) ∧ (I_295 6) < 2147483648) ∧ (-1 ≤ (I_295 7) ∧ (I_295 7) ≤ 24) from (by first | with_reducible assumption | exact ⟨⟨by omega, by omega⟩, ⟨by omega, by omega⟩, ⟨by omega, by omega⟩, by omega, ⟨by omega, by omega⟩, ⟨by omega, by omega⟩, by omega, by omega⟩)), (show (I_295 1) = tp from (by omega)), (show -2147483648 ≤ we ∧ we < 2147483648 from ⟨by omega, by omega⟩), (show 0 = 0 ∨ (0 = 1 ∧ (0 ≤ n ∧ n ≤ 6) ∧ SKZ (F_281 0) n) from (Or.inl rfl))⟩ (hP.sub [0, 5, 6, 7, 1, 2, 3, 4] rfl) (hD.sub [0, 5, 6, 7, 1, 2, 3, 4] rfl rfl) dX6_readRock_219
                          ·
                            rw [s_298]
                            refine lv_if_ne (tgt := 220) hx hb dX6_readRock_215 (by decide) (fun _ => ?_) (fun c => absurd c (by decide))
                            refine lv_aload_n hx hb dX6_readRock_220 rfl (lv_at hl 2 rfl) ?_
                            refine va_get (D := D) (ci := 6) (v := .ref hs) (C := RX6) (T := TX6) (N := 3) hx hb hts iX6 hown hK hP 0 rfl rfl 1 (by decide) (hts _ qf_X6_15) (fun _ h => h) rfl dX6_readRock_221 ?_
                            refine lv_dup hx hb dX6_readRock_224 rfl ?_
                            refine va_get (D := D) (ci := 5) (v := .int (iZ n)) (C := RX5) (T := TX5) (N := 7) hx hb hts iX5 hown hK hP 1 rfl rfl 3 (by decide) (hts _ qf_X6_51) (fun _ h => h) rfl dX6_readRock_225 ?_
                            refine lv_iconst (v := iZ 1) hx hb dX6_readRock_228 (by decide) ?_
                            refine lv_iadd hx hb dX6_readRock_229 ?_
                            refine lv_topi (fun x_301 ex_301 => ?_)
                            obtain rfl : x_301 = iZ (n + 1) := ex_301.trans (iZ_add n 1)
                            refine va_put (D := D) (ci := 5) (v := .int (iZ (n + 1))) (ty := .int) (C := RX5) (T := TX5) (N := 7) hx hb hts iX5 tyX5 tyX5_ok nmX5 hown hK hP hD hS 1 rfl rfl 3 (by decide) (hts _ qf_X6_51) (fun _ h => h) rfl (by decide +kernel) rfl rfl (Nat.le_of_ble_eq_true rfl) dX6_readRock_230 (fun H locs hP hD hS => ?_)
                            refine lv_iconst (v := iZ 1) hx hb dX6_readRock_233 (by decide) ?_
                            exact EWz hx hb hr hlocks hS (fun i => [1, (I_295 1), (I_295 2), (I_295 3), (I_295 4), (I_295 5), (I_295 6), (I_295 7), (I_295 8), (I_295 9), (n + 1), we].getD i 0, fun i => [0, nm_296].getD i 0, fun i => [(F_281 0)].getD i (fun _ => 0), fun i => [(G_10 0)].getD i (fun _ => 0)) rfl rfl ⟨(show (0 ≤ (I_295 1) ∧ (I_295 1) ≤ 900) ∧ (0 ≤ (I_295 2) ∧ (I_295 2) ≤ 900) ∧ (0 ≤ (I_295 3) ∧ (I_295 3) ≤ (I_295 4)) ∧ ((I_295 4) ≤ (I_295 2)) ∧ (0 ≤ (I_295 5) ∧ (I_295 5) ≤ 4) ∧ (-2147483648 ≤ (I_295 6) ∧ (I_295 6) < 2147483648) ∧ (-1 ≤ (I_295 7) ∧ (I_295 7) ≤ 24) from (by first | with_reducible assumption | exact ⟨⟨by omega, by omega⟩, ⟨by omega, by omega⟩, ⟨by omega, by omega⟩, by omega, ⟨by omega, by omega⟩, ⟨by omega, by omega⟩, by omega, by omega⟩)), (show (I_295 1) = tp from (by omega)), (show -2147483648 ≤ we ∧ we < 2147483648 from ⟨by omega, by omega⟩), (show 1 = 0 ∨ (1 = 1 ∧ (0 ≤ (n + 1) ∧ (n + 1) ≤ 6) ∧ SKZ (F_281 0) (n + 1)) from (Or.inr ⟨rfl, ⟨by omega, SKR.skz sk_290 ⟨by omega, by omega⟩⟩⟩))⟩ (hP.sub [0, 5, 6, 7, 1, 2, 3, 4] rfl) (hD.sub [0, 5, 6, 7, 1, 2, 3, 4] rfl rfl) dX6_readRock_234
                        ·
                          have c_292 := (zeq (x := iZ (I_279 7)) (y := iZ 7) rfl rfl ⟨by omega, by omega⟩ ⟨by omega, by omega⟩).mp c_292
                          refine lv_aload_n hx hb dX6_readRock_180 rfl (lv_at hl 2 rfl) ?_
                          refine va_get (D := D) (ci := 6) (v := .ref hr1) (C := RX6) (T := TX6) (N := 3) hx hb hts iX6 hown hK hP 0 rfl rfl 0 (by decide) (hts _ qf_X6_9) (fun _ h => h) rfl dX6_readRock_181 ?_
                          refine CWV (As := []) (rest := []) (wc := [(hr1, .inr (4, [.ref tx, .ref kw, .int (iZ (I_279 1)), .int (iZ (I_279 2)), .int (iZ (I_279 3)), .int (iZ (I_279 4)), .int (iZ (I_279 5)), .int (iZ (I_279 6)), .int (iZ (I_279 7)), .long (L_280 1), .int (iZ (I_279 8)), .int (iZ (I_279 9))])), (tx, .inl (k 0, 900, .inl bf)), (kw, .inl (k 2, 25, .inr (.inl kwf)))]) (wr := [(hq, .inr (6, [.ref hr1, .ref hs, .int (iZ lt)])), (hs, .inr (5, [.ref hN, .ref hf, .ref hg, .int (iZ n), .int (iZ ni), .int (iZ lw), .int (iZ we)])), (hN, .inl (k 2, 6, .inr (.inl (G_10 0)))), (hf, .inl (k 1, 36, .inl (F_281 0))), (hg, .inl (k 1, 32, .inl g))]) hx hb hml hown hts hKK hP hD hS hA (k_next l D k hr1 tx kw bf kwf (I_279 1) (I_279 2) (I_279 3) (I_279 4) (I_279 5) (I_279 6) (I_279 7) (I_279 8) (I_279 9) (L_280 1) (show RDI _ from (show (0 ≤ (I_279 1) ∧ (I_279 1) ≤ 900) ∧ (0 ≤ (I_279 2) ∧ (I_279 2) ≤ 900) ∧ (0 ≤ (I_279 4) ∧ (I_279 4) ≤ (I_279 4)) ∧ ((I_279 4) ≤ (I_279 2)) ∧ (0 ≤ (I_279 5) ∧ (I_279 5) ≤ 4) ∧ (-2147483648 ≤ (0 : Int) ∧ (0 : Int) < 2147483648) ∧ (-1 ≤ (-1 : Int) ∧ (-1 : Int) ≤ 24) from ⟨⟨by omega, by omega⟩, ⟨by omega, by omega⟩, ⟨by omega, by omega⟩, by omega, ⟨by omega, by omega⟩, ⟨by omega, by omega⟩, by omega, by omega⟩))) ci_X4_next qm_X6_54 ⟨Nat.le_of_ble_eq_true rfl, Nat.le_of_ble_eq_true rfl⟩ ⟨Nat.le_of_ble_eq_true rfl, Nat.le_of_ble_eq_true rfl⟩ [1, 2, 3] [0, 4, 5, 6, 7] rfl rfl rfl rfl rfl (by decide) 0 rfl rfl rfl hl.1 rfl (Nat.le_of_ble_eq_true rfl) dX6_readRock_184 (fun u_302 H locs hφ hP hD hS => ?_)
                          obtain ⟨I_303, nm_304⟩ := u_302
                          obtain ⟨ah_305, b1h_305, b2h_305, b3h_305, b4h_305, b5h_305, b6h_305, b7h_305⟩ := hφ
                          dsimp only at ah_305 b1h_305 b2h_305 b3h_305 b4h_305 b5h_305 b6h_305 b7h_305
                          refine W.eq (g2 := F0 m 187 ls []) rfl ?_
                          refine lv_aload_n hx hb dX6_readRock_187 rfl (lv_at hl 2 rfl) ?_
                          refine va_get (D := D) (ci := 6) (v := .ref hs) (C := RX6) (T := TX6) (N := 3) hx hb hts iX6 hown hK hP 0 rfl rfl 1 (by decide) (hts _ qf_X6_15) (fun _ h => h) rfl dX6_readRock_188 ?_
                          refine lv_dup hx hb dX6_readRock_191 rfl ?_
                          refine va_get (D := D) (ci := 5) (v := .int (iZ we)) (C := RX5) (T := TX5) (N := 7) hx hb hts iX5 hown hK hP 1 rfl rfl 6 (by decide) (hts _ qf_X6_64) (fun _ h => h) rfl dX6_readRock_192 ?_
                          refine lv_iconst (v := iZ 1) hx hb dX6_readRock_195 (by decide) ?_
                          refine lv_iload_n hx hb dX6_readRock_196 rfl (lv_at hl 1 rfl) ?_
                          refine lv_ishl hx hb dX6_readRock_197 ?_
                          refine lv_topi (fun x_307 ex_307 => ?_)
                          obtain ⟨z_306, hz_306, hz_306a, hz_306b⟩ := i32_z x_307
                          subst hz_306
                          refine lv_ior hx hb dX6_readRock_198 ?_
                          refine lv_topi (fun x_309 ex_309 => ?_)
                          obtain ⟨z_308, hz_308, hz_308a, hz_308b⟩ := i32_z x_309
                          subst hz_308
                          refine va_put (D := D) (ci := 5) (v := .int (iZ z_308)) (ty := .int) (C := RX5) (T := TX5) (N := 7) hx hb hts iX5 tyX5 tyX5_ok nmX5 hown hK hP hD hS 1 rfl rfl 6 (by decide) (hts _ qf_X6_64) (fun _ h => h) rfl (by decide +kernel) rfl rfl (Nat.le_of_ble_eq_true rfl) dX6_readRock_199 (fun H locs hP hD hS => ?_)
                          refine lv_iload_n hx hb dX6_readRock_202 rfl (lv_at hl 0 rfl) ?_
                          refine lv_if_eq (tgt := 218) hx hb dX6_readRock_203 (by decide) (fun c => absurd c (by decide)) (fun _ => ?_)
                          refine lv_aload_n hx hb dX6_readRock_206 rfl (lv_at hl 2 rfl) ?_
                          refine va_get (D := D) (ci := 6) (v := .ref hr1) (C := RX6) (T := TX6) (N := 3) hx hb hts iX6 hown hK hP 0 rfl rfl 0 (by decide) (hts _ qf_X6_9) (fun _ h => h) rfl dX6_readRock_207 ?_
                          refine lv_bipush (v := iZ 59) hx hb dX6_readRock_210 (by decide) ?_
                          refine CWV (As := [.int (iZ 59)]) (rest := []) (wc := [(hr1, .inr (4, [.ref tx, .ref kw, .int (iZ (I_303 1)), .int (iZ (I_303 2)), .int (iZ (I_303 3)), .int (iZ (I_303 4)), .int (iZ (I_303 5)), .int (iZ (I_303 6)), .int (iZ (I_303 7)), .long nm_304, .int (iZ (I_303 8)), .int (iZ (I_303 9))])), (tx, .inl (k 0, 900, .inl bf)), (kw, .inl (k 2, 25, .inr (.inl kwf)))]) (wr := [(hq, .inr (6, [.ref hr1, .ref hs, .int (iZ lt)])), (hs, .inr (5, [.ref hN, .ref hf, .ref hg, .int (iZ n), .int (iZ ni), .int (iZ lw), .int (iZ z_308)])), (hN, .inl (k 2, 6, .inr (.inl (G_10 0)))), (hf, .inl (k 1, 36, .inl (F_281 0))), (hg, .inl (k 1, 32, .inl g))]) hx hb hml hown hts hKK hP hD hS hA (k_takeSign l D k hr1 tx kw bf kwf (I_303 1) (I_303 2) (I_303 3) (I_303 4) (I_303 5) (I_303 6) (I_303 7) (I_303 8) (I_303 9) nm_304 (show RDI _ from (show (0 ≤ (I_303 1) ∧ (I_303 1) ≤ 900) ∧ (0 ≤ (I_303 2) ∧ (I_303 2) ≤ 900) ∧ (0 ≤ (I_303 3) ∧ (I_303 3) ≤ (I_303 4)) ∧ ((I_303 4) ≤ (I_303 2)) ∧ (0 ≤ (I_303 5) ∧ (I_303 5) ≤ 4) ∧ (-2147483648 ≤ (I_303 6) ∧ (I_303 6) < 2147483648) ∧ (-1 ≤ (I_303 7) ∧ (I_303 7) ≤ 24) from ⟨⟨by omega, by omega⟩, ⟨by omega, by omega⟩, ⟨by omega, by omega⟩, by omega, ⟨by omega, by omega⟩, ⟨by omega, by omega⟩, by omega, by omega⟩)) 59 ⟨by omega, by omega⟩) ci_X4_takeSign qm_X6_67 ⟨Nat.le_of_ble_eq_true rfl, Nat.le_of_ble_eq_true rfl⟩ ⟨Nat.le_of_ble_eq_true rfl, Nat.le_of_ble_eq_true rfl⟩ [5, 6, 7] [0, 1, 2, 3, 4] rfl rfl rfl rfl rfl (by decide) 0 rfl rfl rfl hl.1 rfl (Nat.le_of_ble_eq_true rfl) dX6_readRock_212 (fun u_311 H locs hφ hP hD hS => ?_)
                          obtain ⟨I_312, nm_313⟩ := u_311
                          obtain ⟨ah_314, b1h_314, b2h_314, b3h_314, b4h_314, b5h_314, b6h_314, b7h_314⟩ := hφ
                          dsimp only at ah_314 b1h_314 b2h_314 b3h_314 b4h_314 b5h_314 b6h_314 b7h_314
                          refine W.eq (g2 := F0 m 215 ls [.int (iZ (I_312 0))]) rfl ?_
                          rcases (show ((I_312 0) = 0) ∨ ((I_312 0) = 1) from (by omega)) with s_315 | s_315
                          ·
                            rw [s_315]
                            refine lv_if_ne (tgt := 220) hx hb dX6_readRock_215 (by decide) (fun c => absurd (by decide) c) (fun _ => ?_)
                            refine lv_iconst (v := iZ 0) hx hb dX6_readRock_218 (by decide) ?_
                            exact EWz hx hb hr hlocks hS (fun i => [0, (I_312 1), (I_312 2), (I_312 3), (I_312 4), (I_312 5), (I_312 6), (I_312 7), (I_312 8), (I_312 9), n, z_308].getD i 0, fun i => [0, nm_313].getD i 0, fun i => [(F_281 0)].getD i (fun _ => 0), fun i => [(G_10 0)].getD i (fun _ => 0)) rfl rfl ⟨(show (0 ≤ (I_312 1) ∧ (I_312 1) ≤ 900) ∧ (0 ≤ (I_312 2) ∧ (I_312 2) ≤ 900) ∧ (0 ≤ (I_312 3) ∧ (I_312 3) ≤ (I_312 4)) ∧ ((I_312 4) ≤ (I_312 2)) ∧ (0 ≤ (I_312 5) ∧ (I_312 5) ≤ 4) ∧ (-2147483648 ≤ (I_312 6) ∧ (I_312 6) < 2147483648) ∧ (-1 ≤ (I_312 7) ∧ (I_312 7) ≤ 24) from (by first | with_reducible assumption | exact ⟨⟨by omega, by omega⟩, ⟨by omega, by omega⟩, ⟨by omega, by omega⟩, by omega, ⟨by omega, by omega⟩, ⟨by omega, by omega⟩, by omega, by omega⟩)), (show (I_312 1) = tp from (by omega)), (show -2147483648 ≤ z_308 ∧ z_308 < 2147483648 from ⟨by omega, by omega⟩), (show 0 = 0 ∨ (0 = 1 ∧ (0 ≤ n ∧ n ≤ 6) ∧ SKZ (F_281 0) n) from (Or.inl rfl))⟩ (hP.sub [0, 5, 6, 7, 1, 2, 3, 4] rfl) (hD.sub [0, 5, 6, 7, 1, 2, 3, 4] rfl rfl) dX6_readRock_219
                          ·
                            rw [s_315]
                            refine lv_if_ne (tgt := 220) hx hb dX6_readRock_215 (by decide) (fun _ => ?_) (fun c => absurd c (by decide))
                            refine lv_aload_n hx hb dX6_readRock_220 rfl (lv_at hl 2 rfl) ?_
                            refine va_get (D := D) (ci := 6) (v := .ref hs) (C := RX6) (T := TX6) (N := 3) hx hb hts iX6 hown hK hP 0 rfl rfl 1 (by decide) (hts _ qf_X6_15) (fun _ h => h) rfl dX6_readRock_221 ?_
                            refine lv_dup hx hb dX6_readRock_224 rfl ?_
                            refine va_get (D := D) (ci := 5) (v := .int (iZ n)) (C := RX5) (T := TX5) (N := 7) hx hb hts iX5 hown hK hP 1 rfl rfl 3 (by decide) (hts _ qf_X6_51) (fun _ h => h) rfl dX6_readRock_225 ?_
                            refine lv_iconst (v := iZ 1) hx hb dX6_readRock_228 (by decide) ?_
                            refine lv_iadd hx hb dX6_readRock_229 ?_
                            refine lv_topi (fun x_318 ex_318 => ?_)
                            obtain rfl : x_318 = iZ (n + 1) := ex_318.trans (iZ_add n 1)
                            refine va_put (D := D) (ci := 5) (v := .int (iZ (n + 1))) (ty := .int) (C := RX5) (T := TX5) (N := 7) hx hb hts iX5 tyX5 tyX5_ok nmX5 hown hK hP hD hS 1 rfl rfl 3 (by decide) (hts _ qf_X6_51) (fun _ h => h) rfl (by decide +kernel) rfl rfl (Nat.le_of_ble_eq_true rfl) dX6_readRock_230 (fun H locs hP hD hS => ?_)
                            refine lv_iconst (v := iZ 1) hx hb dX6_readRock_233 (by decide) ?_
                            exact EWz hx hb hr hlocks hS (fun i => [1, (I_312 1), (I_312 2), (I_312 3), (I_312 4), (I_312 5), (I_312 6), (I_312 7), (I_312 8), (I_312 9), (n + 1), z_308].getD i 0, fun i => [0, nm_313].getD i 0, fun i => [(F_281 0)].getD i (fun _ => 0), fun i => [(G_10 0)].getD i (fun _ => 0)) rfl rfl ⟨(show (0 ≤ (I_312 1) ∧ (I_312 1) ≤ 900) ∧ (0 ≤ (I_312 2) ∧ (I_312 2) ≤ 900) ∧ (0 ≤ (I_312 3) ∧ (I_312 3) ≤ (I_312 4)) ∧ ((I_312 4) ≤ (I_312 2)) ∧ (0 ≤ (I_312 5) ∧ (I_312 5) ≤ 4) ∧ (-2147483648 ≤ (I_312 6) ∧ (I_312 6) < 2147483648) ∧ (-1 ≤ (I_312 7) ∧ (I_312 7) ≤ 24) from (by first | with_reducible assumption | exact ⟨⟨by omega, by omega⟩, ⟨by omega, by omega⟩, ⟨by omega, by omega⟩, by omega, ⟨by omega, by omega⟩, ⟨by omega, by omega⟩, by omega, by omega⟩)), (show (I_312 1) = tp from (by omega)), (show -2147483648 ≤ z_308 ∧ z_308 < 2147483648 from ⟨by omega, by omega⟩), (show 1 = 0 ∨ (1 = 1 ∧ (0 ≤ (n + 1) ∧ (n + 1) ≤ 6) ∧ SKZ (F_281 0) (n + 1)) from (Or.inr ⟨rfl, ⟨by omega, SKR.skz sk_290 ⟨by omega, by omega⟩⟩⟩))⟩ (hP.sub [0, 5, 6, 7, 1, 2, 3, 4] rfl) (hD.sub [0, 5, 6, 7, 1, 2, 3, 4] rfl rfl) dX6_readRock_234
  ·
    have c_1 := mt (zlt (x := iZ n) (y := iZ 6) rfl rfl ⟨by omega, by omega⟩ ⟨by omega, by omega⟩).mpr c_1
    refine lv_aload_n hx hb dX6_readRock_12 rfl (lv_at hl 0 rfl) ?_
    refine va_get (D := D) (ci := 6) (v := .ref hr1) (C := RX6) (T := TX6) (N := 3) hx hb hts iX6 hown hK hP 0 rfl rfl 0 (by decide) (hts _ qf_X6_9) (fun _ h => h) rfl dX6_readRock_13 ?_
    refine lv_bipush (v := iZ 6) hx hb dX6_readRock_16 (by decide) ?_
    refine CWV (As := [.int (iZ 6)]) (rest := []) (wc := [(hr1, .inr (4, [.ref tx, .ref kw, .int (iZ tp), .int (iZ ln), .int (iZ pl), .int (iZ en), .int (iZ ki), .int (iZ va), .int (iZ ke), .long nm, .int (iZ fk), .int (iZ fp)])), (tx, .inl (k 0, 900, .inl bf)), (kw, .inl (k 2, 25, .inr (.inl kwf)))]) (wr := [(hq, .inr (6, [.ref hr1, .ref hs, .int (iZ lt)])), (hs, .inr (5, [.ref hN, .ref hf, .ref hg, .int (iZ n), .int (iZ ni), .int (iZ lw), .int (iZ we)])), (hN, .inl (k 2, 6, .inr (.inl nf))), (hf, .inl (k 1, 36, .inl f)), (hg, .inl (k 1, 32, .inl g))]) hx hb hml hown hts hKK hP hD hS hA (k_fail l D k hr1 tx kw bf kwf tp ln pl en ki va ke fk fp nm (show RDI _ from (show (0 ≤ tp ∧ tp ≤ 900) ∧ (0 ≤ ln ∧ ln ≤ 900) ∧ (0 ≤ pl ∧ pl ≤ en) ∧ (en ≤ ln) ∧ (0 ≤ ki ∧ ki ≤ 4) ∧ (-2147483648 ≤ va ∧ va < 2147483648) ∧ (-1 ≤ ke ∧ ke ≤ 24) from ⟨⟨by omega, by omega⟩, ⟨by omega, by omega⟩, ⟨by omega, by omega⟩, by omega, ⟨by omega, by omega⟩, ⟨by omega, by omega⟩, by omega, by omega⟩)) 6 ) ci_X4_fail qm_X6_47 ⟨Nat.le_of_ble_eq_true rfl, Nat.le_of_ble_eq_true rfl⟩ ⟨Nat.le_of_ble_eq_true rfl, Nat.le_of_ble_eq_true rfl⟩ [1, 2, 3] [0, 4, 5, 6, 7] rfl rfl rfl rfl rfl (by decide) 0 rfl rfl rfl hl.1 rfl (Nat.le_of_ble_eq_true rfl) dX6_readRock_18 (fun u_319 H locs hφ hP hD hS => ?_)
    obtain ⟨I_320, nm_321⟩ := u_319
    obtain ⟨ah_322, b1h_322, b2h_322, b3h_322, b4h_322, b5h_322, b6h_322, b7h_322⟩ := hφ
    dsimp only at ah_322 b1h_322 b2h_322 b3h_322 b4h_322 b5h_322 b6h_322 b7h_322
    refine W.eq (g2 := F0 m 21 ls [.int (iZ (I_320 0))]) rfl ?_
    have s_323 : (I_320 0) = 0 := (by omega)
    rw [s_323]
    exact EWz hx hb hr hlocks hS (fun i => [0, (I_320 1), (I_320 2), (I_320 3), (I_320 4), (I_320 5), (I_320 6), (I_320 7), (I_320 8), (I_320 9), n, we].getD i 0, fun i => [0, nm_321].getD i 0, fun i => [f].getD i (fun _ => 0), fun i => [nf].getD i (fun _ => 0)) rfl rfl ⟨(show (0 ≤ (I_320 1) ∧ (I_320 1) ≤ 900) ∧ (0 ≤ (I_320 2) ∧ (I_320 2) ≤ 900) ∧ (0 ≤ (I_320 3) ∧ (I_320 3) ≤ (I_320 4)) ∧ ((I_320 4) ≤ (I_320 2)) ∧ (0 ≤ (I_320 5) ∧ (I_320 5) ≤ 4) ∧ (-2147483648 ≤ (I_320 6) ∧ (I_320 6) < 2147483648) ∧ (-1 ≤ (I_320 7) ∧ (I_320 7) ≤ 24) from (by first | with_reducible assumption | exact ⟨⟨by omega, by omega⟩, ⟨by omega, by omega⟩, ⟨by omega, by omega⟩, by omega, ⟨by omega, by omega⟩, ⟨by omega, by omega⟩, by omega, by omega⟩)), (show (I_320 1) = tp from (by omega)), (show -2147483648 ≤ we ∧ we < 2147483648 from ⟨by omega, by omega⟩), (show 0 = 0 ∨ (0 = 1 ∧ (0 ≤ n ∧ n ≤ 6) ∧ SKZ f n) from (Or.inl rfl))⟩ (hP.sub [0, 5, 6, 7, 1, 2, 3, 4] rfl) (hD.sub [0, 5, 6, 7, 1, 2, 3, 4] rfl rfl) dX6_readRock_21
set_option maxHeartbeats 4000000 in
set_option maxRecDepth 100000 in
theorem k_readIce (l : Launch) (D : va_G) (k : Nat → ClassId) (hq : Nat) (hr1 : Nat) (tx : Nat) (kw : Nat) (lt : Int) (tp : Int) (ln : Int) (pl : Int) (en : Int) (ki : Int) (va : Int) (ke : Int) (fk : Int) (fp : Int) (nm : Int64) (bf : Nat → Int32) (kwf : Nat → Int64) (hs : Nat) (hN : Nat) (hf : Nat) (hg : Nat) (n : Int) (ni : Int) (lw : Int) (we : Int) (nf : Nat → Int64) (f : Nat → Int32) (g : Nat → Int32) (hI1 : (0 ≤ tp ∧ tp ≤ 900) ∧ (0 ≤ ln ∧ ln ≤ 900) ∧ (0 ≤ pl ∧ pl ≤ en) ∧ (en ≤ ln) ∧ (0 ≤ ki ∧ ki ≤ 4) ∧ (-2147483648 ≤ va ∧ va < 2147483648) ∧ (-1 ≤ ke ∧ ke ≤ 24)) (hn : 0 ≤ n ∧ n ≤ 6) (hni : 0 ≤ ni ∧ ni ≤ 8) : WD (σ := ((Nat → Int) × (Nat → Int64) × (Nat → Nat → Int32) × (Nat → Nat → Int64))) l yX6_readIce cX6_readIce 6 (some .boolean) 3 0 0 D k [.ref hq] [(hq, .inr (6, [.ref hr1, .ref hs, .int (iZ lt)])), (hr1, .inr (4, [.ref tx, .ref kw, .int (iZ tp), .int (iZ ln), .int (iZ pl), .int (iZ en), .int (iZ ki), .int (iZ va), .int (iZ ke), .long nm, .int (iZ fk), .int (iZ fp)])), (tx, .inl (k 0, 900, .inl bf)), (kw, .inl (k 2, 25, .inr (.inl kwf))), (hs, .inr (5, [.ref hN, .ref hf, .ref hg, .int (iZ n), .int (iZ ni), .int (iZ lw), .int (iZ we)])), (hN, .inl (k 2, 6, .inr (.inl nf))), (hf, .inl (k 1, 36, .inl f)), (hg, .inl (k 1, 32, .inl g))] (fun u => some (.int (iZ (u.1 0)))) (fun u => ((0 ≤ (u.1 1) ∧ (u.1 1) ≤ 900) ∧ (0 ≤ (u.1 2) ∧ (u.1 2) ≤ 900) ∧ (0 ≤ (u.1 3) ∧ (u.1 3) ≤ (u.1 4)) ∧ ((u.1 4) ≤ (u.1 2)) ∧ (0 ≤ (u.1 5) ∧ (u.1 5) ≤ 4) ∧ (-2147483648 ≤ (u.1 6) ∧ (u.1 6) < 2147483648) ∧ (-1 ≤ (u.1 7) ∧ (u.1 7) ≤ 24)) ∧ ((u.1 1) = tp) ∧ (((u.1 0) = 0 ∨ (u.1 0) = 1) ∧ 0 ≤ (u.1 10) ∧ (u.1 10) ≤ 8)) (fun u => [(hq, .inr (6, [.ref hr1, .ref hs, .int (iZ lt)])), (hr1, .inr (4, [.ref tx, .ref kw, .int (iZ (u.1 1)), .int (iZ (u.1 2)), .int (iZ (u.1 3)), .int (iZ (u.1 4)), .int (iZ (u.1 5)), .int (iZ (u.1 6)), .int (iZ (u.1 7)), .long (u.2.1 1), .int (iZ (u.1 8)), .int (iZ (u.1 9))])), (tx, .inl (k 0, 900, .inl bf)), (kw, .inl (k 2, 25, .inr (.inl kwf))), (hs, .inr (5, [.ref hN, .ref hf, .ref hg, .int (iZ n), .int (iZ (u.1 10)), .int (iZ lw), .int (iZ we)])), (hN, .inl (k 2, 6, .inr (.inl nf))), (hf, .inl (k 1, 36, .inl f)), (hg, .inl (k 1, 32, .inl (u.2.2.1 0)))]) := by
  refine MW (by decide) (Nat.le_of_ble_eq_true rfl) (fun p e s m below meth c ls A hx hb hml hr hlocks hin hts hown hKK hP hD hS hA hl => ?_)
  have hK := hKK.1
  have hl : lv_has ls 6 [(0, .ref hq)] := hl
  refine lv_aload_n hx hb dX6_readIce_0 rfl (lv_at hl 0 rfl) ?_
  refine va_get (D := D) (ci := 6) (v := .ref hs) (C := RX6) (T := TX6) (N := 3) hx hb hts iX6 hown hK hP 0 rfl rfl 1 (by decide) (hts _ qf_X6_15) (fun _ h => h) rfl dX6_readIce_1 ?_
  refine va_get (D := D) (ci := 5) (v := .int (iZ ni)) (C := RX5) (T := TX5) (N := 7) hx hb hts iX5 hown hK hP 4 rfl rfl 4 (by decide) (hts _ qf_X6_96) (fun _ h => h) rfl dX6_readIce_4 ?_
  refine lv_bipush (v := iZ 8) hx hb dX6_readIce_7 (by decide) ?_
  refine lv_icmp_lt (tgt := 22) hx hb dX6_readIce_9 (by decide) (fun c_1 => ?_) (fun c_1 => ?_)
  ·
    have c_1 := (zlt (x := iZ ni) (y := iZ 8) rfl rfl ⟨by omega, by omega⟩ ⟨by omega, by omega⟩).mp c_1
    refine lv_aload_n hx hb dX6_readIce_22 rfl (lv_at hl 0 rfl) ?_
    refine va_get (D := D) (ci := 6) (v := .ref hr1) (C := RX6) (T := TX6) (N := 3) hx hb hts iX6 hown hK hP 0 rfl rfl 0 (by decide) (hts _ qf_X6_9) (fun _ h => h) rfl dX6_readIce_23 ?_
    refine CWV (As := []) (rest := []) (wc := [(hr1, .inr (4, [.ref tx, .ref kw, .int (iZ tp), .int (iZ ln), .int (iZ pl), .int (iZ en), .int (iZ ki), .int (iZ va), .int (iZ ke), .long nm, .int (iZ fk), .int (iZ fp)])), (tx, .inl (k 0, 900, .inl bf)), (kw, .inl (k 2, 25, .inr (.inl kwf)))]) (wr := [(hq, .inr (6, [.ref hr1, .ref hs, .int (iZ lt)])), (hs, .inr (5, [.ref hN, .ref hf, .ref hg, .int (iZ n), .int (iZ ni), .int (iZ lw), .int (iZ we)])), (hN, .inl (k 2, 6, .inr (.inl nf))), (hf, .inl (k 1, 36, .inl f)), (hg, .inl (k 1, 32, .inl g))]) hx hb hml hown hts hKK hP hD hS hA (k_next l D k hr1 tx kw bf kwf tp ln pl en ki va ke fk fp nm (show RDI _ from (show (0 ≤ tp ∧ tp ≤ 900) ∧ (0 ≤ ln ∧ ln ≤ 900) ∧ (0 ≤ en ∧ en ≤ en) ∧ (en ≤ ln) ∧ (0 ≤ ki ∧ ki ≤ 4) ∧ (-2147483648 ≤ (0 : Int) ∧ (0 : Int) < 2147483648) ∧ (-1 ≤ (-1 : Int) ∧ (-1 : Int) ≤ 24) from ⟨⟨by omega, by omega⟩, ⟨by omega, by omega⟩, ⟨by omega, by omega⟩, by omega, ⟨by omega, by omega⟩, ⟨by omega, by omega⟩, by omega, by omega⟩))) ci_X4_next qm_X6_54 ⟨Nat.le_of_ble_eq_true rfl, Nat.le_of_ble_eq_true rfl⟩ ⟨Nat.le_of_ble_eq_true rfl, Nat.le_of_ble_eq_true rfl⟩ [1, 2, 3] [0, 4, 5, 6, 7] rfl rfl rfl rfl rfl (by decide) 0 rfl rfl rfl hl.1 rfl (Nat.le_of_ble_eq_true rfl) dX6_readIce_26 (fun u_2 H locs hφ hP hD hS => ?_)
    obtain ⟨I_3, nm_4⟩ := u_2
    obtain ⟨ah_5, b1h_5, b2h_5, b3h_5, b4h_5, b5h_5, b6h_5, b7h_5⟩ := hφ
    dsimp only at ah_5 b1h_5 b2h_5 b3h_5 b4h_5 b5h_5 b6h_5 b7h_5
    refine W.eq (g2 := F0 m 29 ls []) rfl ?_
    refine lv_aload_n hx hb dX6_readIce_29 rfl (lv_at hl 0 rfl) ?_
    refine va_get (D := D) (ci := 6) (v := .ref hs) (C := RX6) (T := TX6) (N := 3) hx hb hts iX6 hown hK hP 0 rfl rfl 1 (by decide) (hts _ qf_X6_15) (fun _ h => h) rfl dX6_readIce_30 ?_
    refine va_get (D := D) (ci := 5) (v := .int (iZ ni)) (C := RX5) (T := TX5) (N := 7) hx hb hts iX5 hown hK hP 1 rfl rfl 4 (by decide) (hts _ qf_X6_96) (fun _ h => h) rfl dX6_readIce_33 ?_
    refine lv_iconst (v := iZ 4) hx hb dX6_readIce_36 (by decide) ?_
    refine lv_imul hx hb dX6_readIce_37 ?_
    refine lv_topi (fun x_6 ex_6 => ?_)
    obtain rfl : x_6 = iZ (ni * 4) := ex_6.trans (iZ_mul ni 4)
    refine lv_istore_n (lv' := [(1, .int (iZ (ni * 4))), (0, .ref hq)]) hx hb dX6_readIce_38 rfl hl (by decide) rfl (fun ls hl => ?_)
    refine lv_aload_n hx hb dX6_readIce_39 rfl (lv_at hl 1 rfl) ?_
    refine va_get (D := D) (ci := 6) (v := .ref hr1) (C := RX6) (T := TX6) (N := 3) hx hb hts iX6 hown hK hP 0 rfl rfl 0 (by decide) (hts _ qf_X6_9) (fun _ h => h) rfl dX6_readIce_40 ?_
    refine lv_aload_n hx hb dX6_readIce_43 rfl (lv_at hl 1 rfl) ?_
    refine va_get (D := D) (ci := 6) (v := .ref hs) (C := RX6) (T := TX6) (N := 3) hx hb hts iX6 hown hK hP 0 rfl rfl 1 (by decide) (hts _ qf_X6_15) (fun _ h => h) rfl dX6_readIce_44 ?_
    refine lv_iconst (v := iZ (-1)) hx hb dX6_readIce_47 (by decide) ?_
    refine CWV (As := [.ref hs, .int (iZ (-1))]) (rest := []) (wc := [(hr1, .inr (4, [.ref tx, .ref kw, .int (iZ (I_3 1)), .int (iZ (I_3 2)), .int (iZ (I_3 3)), .int (iZ (I_3 4)), .int (iZ (I_3 5)), .int (iZ (I_3 6)), .int (iZ (I_3 7)), .long nm_4, .int (iZ (I_3 8)), .int (iZ (I_3 9))])), (tx, .inl (k 0, 900, .inl bf)), (kw, .inl (k 2, 25, .inr (.inl kwf))), (hs, .inr (5, [.ref hN, .ref hf, .ref hg, .int (iZ n), .int (iZ ni), .int (iZ lw), .int (iZ we)])), (hN, .inl (k 2, 6, .inr (.inl nf)))]) (wr := [(hq, .inr (6, [.ref hr1, .ref hs, .int (iZ lt)])), (hf, .inl (k 1, 36, .inl f)), (hg, .inl (k 1, 32, .inl g))]) hx hb hml hown hts hKK hP hD hS hA (k_takeRock l D k hr1 tx kw bf kwf (I_3 1) (I_3 2) (I_3 3) (I_3 4) (I_3 5) (I_3 6) (I_3 7) (I_3 8) (I_3 9) nm_4 (show RDI _ from (show (0 ≤ (I_3 1) ∧ (I_3 1) ≤ 900) ∧ (0 ≤ (I_3 2) ∧ (I_3 2) ≤ 900) ∧ (0 ≤ (I_3 3) ∧ (I_3 3) ≤ (I_3 4)) ∧ ((I_3 4) ≤ (I_3 2)) ∧ (0 ≤ (I_3 5) ∧ (I_3 5) ≤ 4) ∧ (-2147483648 ≤ (I_3 6) ∧ (I_3 6) < 2147483648) ∧ (-1 ≤ (I_3 7) ∧ (I_3 7) ≤ 24) from ⟨⟨by omega, by omega⟩, ⟨by omega, by omega⟩, ⟨by omega, by omega⟩, by omega, ⟨by omega, by omega⟩, ⟨by omega, by omega⟩, by omega, by omega⟩)) hs hN [.ref hN, .ref hf, .ref hg, .int (iZ n), .int (iZ ni), .int (iZ lw), .int (iZ we)] rfl nf n rfl ⟨by omega, by omega⟩ (-1) ⟨by omega, by omega⟩) ci_X4_takeRock qm_X6_99 ⟨Nat.le_of_ble_eq_true rfl, Nat.le_of_ble_eq_true rfl⟩ ⟨Nat.le_of_ble_eq_true rfl, Nat.le_of_ble_eq_true rfl⟩ [5, 6, 7, 1, 2] [0, 3, 4] rfl rfl rfl rfl rfl (by decide) 0 rfl rfl rfl hl.1 rfl (Nat.le_of_ble_eq_true rfl) dX6_readIce_48 (fun u_7 H locs hφ hP hD hS => ?_)
    obtain ⟨I_8, nm_9⟩ := u_7
    obtain ⟨ah_10, b1h_10, b2h_10, b3h_10, b4h_10, b5h_10, b6h_10, b7h_10⟩ := hφ
    dsimp only at ah_10 b1h_10 b2h_10 b3h_10 b4h_10 b5h_10 b6h_10 b7h_10
    refine W.eq (g2 := F0 m 51 ls [.int (iZ (I_8 0))]) rfl ?_
    rcases (show ((I_8 0) = -1) ∨ (0 ≤ (I_8 0) ∧ (I_8 0) < n) from (by omega)) with s_11 | s_11
    ·
      rw [s_11]
      refine lv_istore_n (lv' := [(2, .int (iZ (-1))), (1, .int (iZ (ni * 4))), (0, .ref hq)]) hx hb dX6_readIce_51 rfl hl (by decide) rfl (fun ls hl => ?_)
      refine lv_iload_n hx hb dX6_readIce_52 rfl (lv_at hl 0 rfl) ?_
      refine lv_iconst (v := iZ (-1)) hx hb dX6_readIce_53 (by decide) ?_
      refine lv_icmp_ne (tgt := 61) hx hb dX6_readIce_54 (by decide) (fun c => absurd (by decide) c) (fun _ => ?_)
      refine lv_iconst (v := iZ (-1)) hx hb dX6_readIce_57 (by decide) ?_
      refine lv_goto (tgt := 73) hx hb dX6_readIce_58 (by decide) ?_
      refine lv_istore_n (lv' := [(3, .int (iZ (-1))), (2, .int (iZ (-1))), (1, .int (iZ (ni * 4))), (0, .ref hq)]) hx hb dX6_readIce_73 rfl hl (by decide) rfl (fun ls hl => ?_)
      refine lv_iload_n hx hb dX6_readIce_74 rfl (lv_at hl 0 rfl) ?_
      refine lv_iconst (v := iZ (-1)) hx hb dX6_readIce_75 (by decide) ?_
      refine lv_icmp_eq (tgt := 91) hx hb dX6_readIce_76 (by decide) (fun _ => ?_) (fun c => absurd (by decide) c)
      refine lv_iconst (v := iZ 0) hx hb dX6_readIce_91 (by decide) ?_
      exact EWz hx hb hr hlocks hS (fun i => [0, (I_8 1), (I_8 2), (I_8 3), (I_8 4), (I_8 5), (I_8 6), (I_8 7), (I_8 8), (I_8 9), ni].getD i 0, fun i => [0, nm_9].getD i 0, fun i => [g].getD i (fun _ => 0), fun i => [].getD i (fun _ => 0)) rfl rfl ⟨(show (0 ≤ (I_8 1) ∧ (I_8 1) ≤ 900) ∧ (0 ≤ (I_8 2) ∧ (I_8 2) ≤ 900) ∧ (0 ≤ (I_8 3) ∧ (I_8 3) ≤ (I_8 4)) ∧ ((I_8 4) ≤ (I_8 2)) ∧ (0 ≤ (I_8 5) ∧ (I_8 5) ≤ 4) ∧ (-2147483648 ≤ (I_8 6) ∧ (I_8 6) < 2147483648) ∧ (-1 ≤ (I_8 7) ∧ (I_8 7) ≤ 24) from (by first | with_reducible assumption | exact ⟨⟨by omega, by omega⟩, ⟨by omega, by omega⟩, ⟨by omega, by omega⟩, by omega, ⟨by omega, by omega⟩, ⟨by omega, by omega⟩, by omega, by omega⟩)), (show (I_8 1) = tp from (by omega)), (show (0 = 0 ∨ 0 = 1) ∧ 0 ≤ ni ∧ ni ≤ 8 from (by omega))⟩ (hP.sub [0, 3, 4, 5, 6, 7, 1, 2] rfl) (hD.sub [0, 3, 4, 5, 6, 7, 1, 2] rfl rfl) dX6_readIce_92
    ·
      refine lv_istore_n (lv' := [(2, .int (iZ (I_8 0))), (1, .int (iZ (ni * 4))), (0, .ref hq)]) hx hb dX6_readIce_51 rfl hl (by decide) rfl (fun ls hl => ?_)
      refine lv_iload_n hx hb dX6_readIce_52 rfl (lv_at hl 0 rfl) ?_
      refine lv_iconst (v := iZ (-1)) hx hb dX6_readIce_53 (by decide) ?_
      refine lv_icmp_ne (tgt := 61) hx hb dX6_readIce_54 (by decide) (fun c_14 => ?_) (fun c_14 => ?_)
      ·
        have c_14 := mt (zeq (x := iZ (I_8 0)) (y := iZ (-1)) rfl rfl ⟨by omega, by omega⟩ ⟨by omega, by omega⟩).mpr c_14
        refine lv_aload_n hx hb dX6_readIce_61 rfl (lv_at hl 2 rfl) ?_
        refine va_get (D := D) (ci := 6) (v := .ref hr1) (C := RX6) (T := TX6) (N := 3) hx hb hts iX6 hown hK hP 0 rfl rfl 0 (by decide) (hts _ qf_X6_9) (fun _ h => h) rfl dX6_readIce_62 ?_
        refine lv_aload_n hx hb dX6_readIce_65 rfl (lv_at hl 2 rfl) ?_
        refine va_get (D := D) (ci := 6) (v := .ref hs) (C := RX6) (T := TX6) (N := 3) hx hb hts iX6 hown hK hP 0 rfl rfl 1 (by decide) (hts _ qf_X6_15) (fun _ h => h) rfl dX6_readIce_66 ?_
        refine lv_iload_n hx hb dX6_readIce_69 rfl (lv_at hl 0 rfl) ?_
        refine CWV (As := [.ref hs, .int (iZ (I_8 0))]) (rest := []) (wc := [(hr1, .inr (4, [.ref tx, .ref kw, .int (iZ (I_8 1)), .int (iZ (I_8 2)), .int (iZ (I_8 3)), .int (iZ (I_8 4)), .int (iZ (I_8 5)), .int (iZ (I_8 6)), .int (iZ (I_8 7)), .long nm_9, .int (iZ (I_8 8)), .int (iZ (I_8 9))])), (tx, .inl (k 0, 900, .inl bf)), (kw, .inl (k 2, 25, .inr (.inl kwf))), (hs, .inr (5, [.ref hN, .ref hf, .ref hg, .int (iZ n), .int (iZ ni), .int (iZ lw), .int (iZ we)])), (hN, .inl (k 2, 6, .inr (.inl nf)))]) (wr := [(hq, .inr (6, [.ref hr1, .ref hs, .int (iZ lt)])), (hf, .inl (k 1, 36, .inl f)), (hg, .inl (k 1, 32, .inl g))]) hx hb hml hown hts hKK hP hD hS hA (k_takeRock l D k hr1 tx kw bf kwf (I_8 1) (I_8 2) (I_8 3) (I_8 4) (I_8 5) (I_8 6) (I_8 7) (I_8 8) (I_8 9) nm_9 (show RDI _ from (show (0 ≤ (I_8 1) ∧ (I_8 1) ≤ 900) ∧ (0 ≤ (I_8 2) ∧ (I_8 2) ≤ 900) ∧ (0 ≤ (I_8 3) ∧ (I_8 3) ≤ (I_8 4)) ∧ ((I_8 4) ≤ (I_8 2)) ∧ (0 ≤ (I_8 5) ∧ (I_8 5) ≤ 4) ∧ (-2147483648 ≤ (I_8 6) ∧ (I_8 6) < 2147483648) ∧ (-1 ≤ (I_8 7) ∧ (I_8 7) ≤ 24) from ⟨⟨by omega, by omega⟩, ⟨by omega, by omega⟩, ⟨by omega, by omega⟩, by omega, ⟨by omega, by omega⟩, ⟨by omega, by omega⟩, by omega, by omega⟩)) hs hN [.ref hN, .ref hf, .ref hg, .int (iZ n), .int (iZ ni), .int (iZ lw), .int (iZ we)] rfl nf n rfl ⟨by omega, by omega⟩ (I_8 0) ⟨by omega, by omega⟩) ci_X4_takeRock qm_X6_99 ⟨Nat.le_of_ble_eq_true rfl, Nat.le_of_ble_eq_true rfl⟩ ⟨Nat.le_of_ble_eq_true rfl, Nat.le_of_ble_eq_true rfl⟩ [3, 4, 5, 6, 7] [0, 1, 2] rfl rfl rfl rfl rfl (by decide) 0 rfl rfl rfl hl.1 rfl (Nat.le_of_ble_eq_true rfl) dX6_readIce_70 (fun u_15 H locs hφ hP hD hS => ?_)
        obtain ⟨I_16, nm_17⟩ := u_15
        obtain ⟨ah_18, b1h_18, b2h_18, b3h_18, b4h_18, b5h_18, b6h_18, b7h_18⟩ := hφ
        dsimp only at ah_18 b1h_18 b2h_18 b3h_18 b4h_18 b5h_18 b6h_18 b7h_18
        refine W.eq (g2 := F0 m 73 ls [.int (iZ (I_16 0))]) rfl ?_
        rcases (show ((I_16 0) = -1) ∨ (0 ≤ (I_16 0) ∧ (I_16 0) < n) from (by omega)) with s_19 | s_19
        ·
          rw [s_19]
          refine lv_istore_n (lv' := [(3, .int (iZ (-1))), (2, .int (iZ (I_8 0))), (1, .int (iZ (ni * 4))), (0, .ref hq)]) hx hb dX6_readIce_73 rfl hl (by decide) rfl (fun ls hl => ?_)
          refine lv_iload_n hx hb dX6_readIce_74 rfl (lv_at hl 0 rfl) ?_
          refine lv_iconst (v := iZ (-1)) hx hb dX6_readIce_75 (by decide) ?_
          refine lv_icmp_eq (tgt := 91) hx hb dX6_readIce_76 (by decide) (fun _ => ?_) (fun c => absurd (by decide) c)
          refine lv_iconst (v := iZ 0) hx hb dX6_readIce_91 (by decide) ?_
          exact EWz hx hb hr hlocks hS (fun i => [0, (I_16 1), (I_16 2), (I_16 3), (I_16 4), (I_16 5), (I_16 6), (I_16 7), (I_16 8), (I_16 9), ni].getD i 0, fun i => [0, nm_17].getD i 0, fun i => [g].getD i (fun _ => 0), fun i => [].getD i (fun _ => 0)) rfl rfl ⟨(show (0 ≤ (I_16 1) ∧ (I_16 1) ≤ 900) ∧ (0 ≤ (I_16 2) ∧ (I_16 2) ≤ 900) ∧ (0 ≤ (I_16 3) ∧ (I_16 3) ≤ (I_16 4)) ∧ ((I_16 4) ≤ (I_16 2)) ∧ (0 ≤ (I_16 5) ∧ (I_16 5) ≤ 4) ∧ (-2147483648 ≤ (I_16 6) ∧ (I_16 6) < 2147483648) ∧ (-1 ≤ (I_16 7) ∧ (I_16 7) ≤ 24) from (by first | with_reducible assumption | exact ⟨⟨by omega, by omega⟩, ⟨by omega, by omega⟩, ⟨by omega, by omega⟩, by omega, ⟨by omega, by omega⟩, ⟨by omega, by omega⟩, by omega, by omega⟩)), (show (I_16 1) = tp from (by omega)), (show (0 = 0 ∨ 0 = 1) ∧ 0 ≤ ni ∧ ni ≤ 8 from (by omega))⟩ (hP.sub [0, 3, 4, 5, 6, 7, 1, 2] rfl) (hD.sub [0, 3, 4, 5, 6, 7, 1, 2] rfl rfl) dX6_readIce_92
        ·
          refine lv_istore_n (lv' := [(3, .int (iZ (I_16 0))), (2, .int (iZ (I_8 0))), (1, .int (iZ (ni * 4))), (0, .ref hq)]) hx hb dX6_readIce_73 rfl hl (by decide) rfl (fun ls hl => ?_)
          refine lv_iload_n hx hb dX6_readIce_74 rfl (lv_at hl 0 rfl) ?_
          refine lv_iconst (v := iZ (-1)) hx hb dX6_readIce_75 (by decide) ?_
          refine lv_icmp_eq (tgt := 91) hx hb dX6_readIce_76 (by decide) (fun c_21 => ?_) (fun c_21 => ?_)
          ·
            have c_21 := (zeq (x := iZ (I_16 0)) (y := iZ (-1)) rfl rfl ⟨by omega, by omega⟩ ⟨by omega, by omega⟩).mp c_21
            exact absurd c_21 (by omega)
          ·
            have c_21 := mt (zeq (x := iZ (I_16 0)) (y := iZ (-1)) rfl rfl ⟨by omega, by omega⟩ ⟨by omega, by omega⟩).mpr c_21
            refine lv_aload_n hx hb dX6_readIce_79 rfl (lv_at hl 3 rfl) ?_
            refine va_get (D := D) (ci := 6) (v := .ref hr1) (C := RX6) (T := TX6) (N := 3) hx hb hts iX6 hown hK hP 0 rfl rfl 0 (by decide) (hts _ qf_X6_9) (fun _ h => h) rfl dX6_readIce_80 ?_
            refine lv_bipush (v := iZ 9) hx hb dX6_readIce_83 (by decide) ?_
            refine CWV (As := [.int (iZ 9)]) (rest := []) (wc := [(hr1, .inr (4, [.ref tx, .ref kw, .int (iZ (I_16 1)), .int (iZ (I_16 2)), .int (iZ (I_16 3)), .int (iZ (I_16 4)), .int (iZ (I_16 5)), .int (iZ (I_16 6)), .int (iZ (I_16 7)), .long nm_17, .int (iZ (I_16 8)), .int (iZ (I_16 9))])), (tx, .inl (k 0, 900, .inl bf)), (kw, .inl (k 2, 25, .inr (.inl kwf)))]) (wr := [(hq, .inr (6, [.ref hr1, .ref hs, .int (iZ lt)])), (hf, .inl (k 1, 36, .inl f)), (hg, .inl (k 1, 32, .inl g)), (hs, .inr (5, [.ref hN, .ref hf, .ref hg, .int (iZ n), .int (iZ ni), .int (iZ lw), .int (iZ we)])), (hN, .inl (k 2, 6, .inr (.inl nf)))]) hx hb hml hown hts hKK hP hD hS hA (k_takeWord l D k hr1 tx kw bf kwf (I_16 1) (I_16 2) (I_16 3) (I_16 4) (I_16 5) (I_16 6) (I_16 7) (I_16 8) (I_16 9) nm_17 (show RDI _ from (show (0 ≤ (I_16 1) ∧ (I_16 1) ≤ 900) ∧ (0 ≤ (I_16 2) ∧ (I_16 2) ≤ 900) ∧ (0 ≤ (I_16 3) ∧ (I_16 3) ≤ (I_16 4)) ∧ ((I_16 4) ≤ (I_16 2)) ∧ (0 ≤ (I_16 5) ∧ (I_16 5) ≤ 4) ∧ (-2147483648 ≤ (I_16 6) ∧ (I_16 6) < 2147483648) ∧ (-1 ≤ (I_16 7) ∧ (I_16 7) ≤ 24) from ⟨⟨by omega, by omega⟩, ⟨by omega, by omega⟩, ⟨by omega, by omega⟩, by omega, ⟨by omega, by omega⟩, ⟨by omega, by omega⟩, by omega, by omega⟩)) 9 ⟨by omega, by omega⟩) ci_X4_takeWord qm_X6_85 ⟨Nat.le_of_ble_eq_true rfl, Nat.le_of_ble_eq_true rfl⟩ ⟨Nat.le_of_ble_eq_true rfl, Nat.le_of_ble_eq_true rfl⟩ [3, 4, 5] [0, 1, 2, 6, 7] rfl rfl rfl rfl rfl (by decide) 0 rfl rfl rfl hl.1 rfl (Nat.le_of_ble_eq_true rfl) dX6_readIce_85 (fun u_22 H locs hφ hP hD hS => ?_)
            obtain ⟨I_23, nm_24⟩ := u_22
            obtain ⟨ah_25, b1h_25, b2h_25, b3h_25, b4h_25, b5h_25, b6h_25, b7h_25⟩ := hφ
            dsimp only at ah_25 b1h_25 b2h_25 b3h_25 b4h_25 b5h_25 b6h_25 b7h_25
            refine W.eq (g2 := F0 m 88 ls [.int (iZ (I_23 0))]) rfl ?_
            rcases (show ((I_23 0) = 0) ∨ ((I_23 0) = 1) from (by omega)) with s_26 | s_26
            ·
              rw [s_26]
              refine lv_if_ne (tgt := 93) hx hb dX6_readIce_88 (by decide) (fun c => absurd (by decide) c) (fun _ => ?_)
              refine lv_iconst (v := iZ 0) hx hb dX6_readIce_91 (by decide) ?_
              exact EWz hx hb hr hlocks hS (fun i => [0, (I_23 1), (I_23 2), (I_23 3), (I_23 4), (I_23 5), (I_23 6), (I_23 7), (I_23 8), (I_23 9), ni].getD i 0, fun i => [0, nm_24].getD i 0, fun i => [g].getD i (fun _ => 0), fun i => [].getD i (fun _ => 0)) rfl rfl ⟨(show (0 ≤ (I_23 1) ∧ (I_23 1) ≤ 900) ∧ (0 ≤ (I_23 2) ∧ (I_23 2) ≤ 900) ∧ (0 ≤ (I_23 3) ∧ (I_23 3) ≤ (I_23 4)) ∧ ((I_23 4) ≤ (I_23 2)) ∧ (0 ≤ (I_23 5) ∧ (I_23 5) ≤ 4) ∧ (-2147483648 ≤ (I_23 6) ∧ (I_23 6) < 2147483648) ∧ (-1 ≤ (I_23 7) ∧ (I_23 7) ≤ 24) from (by first | with_reducible assumption | exact ⟨⟨by omega, by omega⟩, ⟨by omega, by omega⟩, ⟨by omega, by omega⟩, by omega, ⟨by omega, by omega⟩, ⟨by omega, by omega⟩, by omega, by omega⟩)), (show (I_23 1) = tp from (by omega)), (show (0 = 0 ∨ 0 = 1) ∧ 0 ≤ ni ∧ ni ≤ 8 from (by omega))⟩ (hP.sub [0, 5, 6, 7, 3, 4, 1, 2] rfl) (hD.sub [0, 5, 6, 7, 3, 4, 1, 2] rfl rfl) dX6_readIce_92
            ·
              rw [s_26]
              refine lv_if_ne (tgt := 93) hx hb dX6_readIce_88 (by decide) (fun _ => ?_) (fun c => absurd c (by decide))
              refine lv_aload_n hx hb dX6_readIce_93 rfl (lv_at hl 3 rfl) ?_
              refine va_get (D := D) (ci := 6) (v := .ref hr1) (C := RX6) (T := TX6) (N := 3) hx hb hts iX6 hown hK hP 0 rfl rfl 0 (by decide) (hts _ qf_X6_9) (fun _ h => h) rfl dX6_readIce_94 ?_
              refine lv_iconst (v := iZ 0) hx hb dX6_readIce_97 (by decide) ?_
              refine lv_sipush (v := iZ 400) hx hb dX6_readIce_98 (by decide) ?_
              refine CWV (As := [.int (iZ 0), .int (iZ 400)]) (rest := []) (wc := [(hr1, .inr (4, [.ref tx, .ref kw, .int (iZ (I_23 1)), .int (iZ (I_23 2)), .int (iZ (I_23 3)), .int (iZ (I_23 4)), .int (iZ (I_23 5)), .int (iZ (I_23 6)), .int (iZ (I_23 7)), .long nm_24, .int (iZ (I_23 8)), .int (iZ (I_23 9))])), (tx, .inl (k 0, 900, .inl bf)), (kw, .inl (k 2, 25, .inr (.inl kwf)))]) (wr := [(hq, .inr (6, [.ref hr1, .ref hs, .int (iZ lt)])), (hf, .inl (k 1, 36, .inl f)), (hg, .inl (k 1, 32, .inl g)), (hs, .inr (5, [.ref hN, .ref hf, .ref hg, .int (iZ n), .int (iZ ni), .int (iZ lw), .int (iZ we)])), (hN, .inl (k 2, 6, .inr (.inl nf)))]) hx hb hml hown hts hKK hP hD hS hA (k_takeNumber l D k hr1 tx kw bf kwf (I_23 1) (I_23 2) (I_23 3) (I_23 4) (I_23 5) (I_23 6) (I_23 7) (I_23 8) (I_23 9) nm_24 (show RDI _ from (show (0 ≤ (I_23 1) ∧ (I_23 1) ≤ 900) ∧ (0 ≤ (I_23 2) ∧ (I_23 2) ≤ 900) ∧ (0 ≤ (I_23 3) ∧ (I_23 3) ≤ (I_23 4)) ∧ ((I_23 4) ≤ (I_23 2)) ∧ (0 ≤ (I_23 5) ∧ (I_23 5) ≤ 4) ∧ (-2147483648 ≤ (I_23 6) ∧ (I_23 6) < 2147483648) ∧ (-1 ≤ (I_23 7) ∧ (I_23 7) ≤ 24) from ⟨⟨by omega, by omega⟩, ⟨by omega, by omega⟩, ⟨by omega, by omega⟩, by omega, ⟨by omega, by omega⟩, ⟨by omega, by omega⟩, by omega, by omega⟩)) 0 400 ⟨by omega, by omega⟩ ⟨by omega, by omega⟩) ci_X4_takeNumber qm_X6_88 ⟨Nat.le_of_ble_eq_true rfl, Nat.le_of_ble_eq_true rfl⟩ ⟨Nat.le_of_ble_eq_true rfl, Nat.le_of_ble_eq_true rfl⟩ [5, 6, 7] [0, 1, 2, 3, 4] rfl rfl rfl rfl rfl (by decide) 0 rfl rfl rfl hl.1 rfl (Nat.le_of_ble_eq_true rfl) dX6_readIce_101 (fun u_29 H locs hφ hP hD hS => ?_)
              obtain ⟨I_30, nm_31⟩ := u_29
              obtain ⟨ah_32, b1h_32, b2h_32, b3h_32, b4h_32, b5h_32, b6h_32, b7h_32⟩ := hφ
              dsimp only at ah_32 b1h_32 b2h_32 b3h_32 b4h_32 b5h_32 b6h_32 b7h_32
              refine W.eq (g2 := F0 m 104 ls [.int (iZ (I_30 0))]) rfl ?_
              rcases (show ((I_30 0) = -1) ∨ (0 ≤ (I_30 0) ∧ (I_30 0) ≤ 400) from (by omega)) with s_33 | s_33
              ·
                rw [s_33]
                refine lv_istore (lv' := [(4, .int (iZ (-1))), (3, .int (iZ (I_16 0))), (2, .int (iZ (I_8 0))), (1, .int (iZ (ni * 4))), (0, .ref hq)]) hx hb dX6_readIce_104 hl (by decide) rfl (fun ls hl => ?_)
                refine lv_iload hx hb dX6_readIce_106 (lv_at hl 0 rfl) ?_
                refine lv_iconst (v := iZ (-1)) hx hb dX6_readIce_108 (by decide) ?_
                refine lv_icmp_eq (tgt := 124) hx hb dX6_readIce_109 (by decide) (fun _ => ?_) (fun c => absurd (by decide) c)
                refine lv_iconst (v := iZ 0) hx hb dX6_readIce_124 (by decide) ?_
                exact EWz hx hb hr hlocks hS (fun i => [0, (I_30 1), (I_30 2), (I_30 3), (I_30 4), (I_30 5), (I_30 6), (I_30 7), (I_30 8), (I_30 9), ni].getD i 0, fun i => [0, nm_31].getD i 0, fun i => [g].getD i (fun _ => 0), fun i => [].getD i (fun _ => 0)) rfl rfl ⟨(show (0 ≤ (I_30 1) ∧ (I_30 1) ≤ 900) ∧ (0 ≤ (I_30 2) ∧ (I_30 2) ≤ 900) ∧ (0 ≤ (I_30 3) ∧ (I_30 3) ≤ (I_30 4)) ∧ ((I_30 4) ≤ (I_30 2)) ∧ (0 ≤ (I_30 5) ∧ (I_30 5) ≤ 4) ∧ (-2147483648 ≤ (I_30 6) ∧ (I_30 6) < 2147483648) ∧ (-1 ≤ (I_30 7) ∧ (I_30 7) ≤ 24) from (by first | with_reducible assumption | exact ⟨⟨by omega, by omega⟩, ⟨by omega, by omega⟩, ⟨by omega, by omega⟩, by omega, ⟨by omega, by omega⟩, ⟨by omega, by omega⟩, by omega, by omega⟩)), (show (I_30 1) = tp from (by omega)), (show (0 = 0 ∨ 0 = 1) ∧ 0 ≤ ni ∧ ni ≤ 8 from (by omega))⟩ (hP.sub [0, 5, 6, 7, 3, 4, 1, 2] rfl) (hD.sub [0, 5, 6, 7, 3, 4, 1, 2] rfl rfl) dX6_readIce_125
              ·
                refine lv_istore (lv' := [(4, .int (iZ (I_30 0))), (3, .int (iZ (I_16 0))), (2, .int (iZ (I_8 0))), (1, .int (iZ (ni * 4))), (0, .ref hq)]) hx hb dX6_readIce_104 hl (by decide) rfl (fun ls hl => ?_)
                refine lv_iload hx hb dX6_readIce_106 (lv_at hl 0 rfl) ?_
                refine lv_iconst (v := iZ (-1)) hx hb dX6_readIce_108 (by decide) ?_
                refine lv_icmp_eq (tgt := 124) hx hb dX6_readIce_109 (by decide) (fun c_35 => ?_) (fun c_35 => ?_)
                ·
                  have c_35 := (zeq (x := iZ (I_30 0)) (y := iZ (-1)) rfl rfl ⟨by omega, by omega⟩ ⟨by omega, by omega⟩).mp c_35
                  exact absurd c_35 (by omega)
                ·
                  have c_35 := mt (zeq (x := iZ (I_30 0)) (y := iZ (-1)) rfl rfl ⟨by omega, by omega⟩ ⟨by omega, by omega⟩).mpr c_35
                  refine lv_aload_n hx hb dX6_readIce_112 rfl (lv_at hl 4 rfl) ?_
                  refine va_get (D := D) (ci := 6) (v := .ref hr1) (C := RX6) (T := TX6) (N := 3) hx hb hts iX6 hown hK hP 0 rfl rfl 0 (by decide) (hts _ qf_X6_9) (fun _ h => h) rfl dX6_readIce_113 ?_
                  refine lv_bipush (v := iZ 10) hx hb dX6_readIce_116 (by decide) ?_
                  refine CWV (As := [.int (iZ 10)]) (rest := []) (wc := [(hr1, .inr (4, [.ref tx, .ref kw, .int (iZ (I_30 1)), .int (iZ (I_30 2)), .int (iZ (I_30 3)), .int (iZ (I_30 4)), .int (iZ (I_30 5)), .int (iZ (I_30 6)), .int (iZ (I_30 7)), .long nm_31, .int (iZ (I_30 8)), .int (iZ (I_30 9))])), (tx, .inl (k 0, 900, .inl bf)), (kw, .inl (k 2, 25, .inr (.inl kwf)))]) (wr := [(hq, .inr (6, [.ref hr1, .ref hs, .int (iZ lt)])), (hf, .inl (k 1, 36, .inl f)), (hg, .inl (k 1, 32, .inl g)), (hs, .inr (5, [.ref hN, .ref hf, .ref hg, .int (iZ n), .int (iZ ni), .int (iZ lw), .int (iZ we)])), (hN, .inl (k 2, 6, .inr (.inl nf)))]) hx hb hml hown hts hKK hP hD hS hA (k_takeWord l D k hr1 tx kw bf kwf (I_30 1) (I_30 2) (I_30 3) (I_30 4) (I_30 5) (I_30 6) (I_30 7) (I_30 8) (I_30 9) nm_31 (show RDI _ from (show (0 ≤ (I_30 1) ∧ (I_30 1) ≤ 900) ∧ (0 ≤ (I_30 2) ∧ (I_30 2) ≤ 900) ∧ (0 ≤ (I_30 3) ∧ (I_30 3) ≤ (I_30 4)) ∧ ((I_30 4) ≤ (I_30 2)) ∧ (0 ≤ (I_30 5) ∧ (I_30 5) ≤ 4) ∧ (-2147483648 ≤ (I_30 6) ∧ (I_30 6) < 2147483648) ∧ (-1 ≤ (I_30 7) ∧ (I_30 7) ≤ 24) from ⟨⟨by omega, by omega⟩, ⟨by omega, by omega⟩, ⟨by omega, by omega⟩, by omega, ⟨by omega, by omega⟩, ⟨by omega, by omega⟩, by omega, by omega⟩)) 10 ⟨by omega, by omega⟩) ci_X4_takeWord qm_X6_85 ⟨Nat.le_of_ble_eq_true rfl, Nat.le_of_ble_eq_true rfl⟩ ⟨Nat.le_of_ble_eq_true rfl, Nat.le_of_ble_eq_true rfl⟩ [5, 6, 7] [0, 1, 2, 3, 4] rfl rfl rfl rfl rfl (by decide) 0 rfl rfl rfl hl.1 rfl (Nat.le_of_ble_eq_true rfl) dX6_readIce_118 (fun u_36 H locs hφ hP hD hS => ?_)
                  obtain ⟨I_37, nm_38⟩ := u_36
                  obtain ⟨ah_39, b1h_39, b2h_39, b3h_39, b4h_39, b5h_39, b6h_39, b7h_39⟩ := hφ
                  dsimp only at ah_39 b1h_39 b2h_39 b3h_39 b4h_39 b5h_39 b6h_39 b7h_39
                  refine W.eq (g2 := F0 m 121 ls [.int (iZ (I_37 0))]) rfl ?_
                  rcases (show ((I_37 0) = 0) ∨ ((I_37 0) = 1) from (by omega)) with s_40 | s_40
                  ·
                    rw [s_40]
                    refine lv_if_ne (tgt := 126) hx hb dX6_readIce_121 (by decide) (fun c => absurd (by decide) c) (fun _ => ?_)
                    refine lv_iconst (v := iZ 0) hx hb dX6_readIce_124 (by decide) ?_
                    exact EWz hx hb hr hlocks hS (fun i => [0, (I_37 1), (I_37 2), (I_37 3), (I_37 4), (I_37 5), (I_37 6), (I_37 7), (I_37 8), (I_37 9), ni].getD i 0, fun i => [0, nm_38].getD i 0, fun i => [g].getD i (fun _ => 0), fun i => [].getD i (fun _ => 0)) rfl rfl ⟨(show (0 ≤ (I_37 1) ∧ (I_37 1) ≤ 900) ∧ (0 ≤ (I_37 2) ∧ (I_37 2) ≤ 900) ∧ (0 ≤ (I_37 3) ∧ (I_37 3) ≤ (I_37 4)) ∧ ((I_37 4) ≤ (I_37 2)) ∧ (0 ≤ (I_37 5) ∧ (I_37 5) ≤ 4) ∧ (-2147483648 ≤ (I_37 6) ∧ (I_37 6) < 2147483648) ∧ (-1 ≤ (I_37 7) ∧ (I_37 7) ≤ 24) from (by first | with_reducible assumption | exact ⟨⟨by omega, by omega⟩, ⟨by omega, by omega⟩, ⟨by omega, by omega⟩, by omega, ⟨by omega, by omega⟩, ⟨by omega, by omega⟩, by omega, by omega⟩)), (show (I_37 1) = tp from (by omega)), (show (0 = 0 ∨ 0 = 1) ∧ 0 ≤ ni ∧ ni ≤ 8 from (by omega))⟩ (hP.sub [0, 5, 6, 7, 3, 4, 1, 2] rfl) (hD.sub [0, 5, 6, 7, 3, 4, 1, 2] rfl rfl) dX6_readIce_125
                  ·
                    rw [s_40]
                    refine lv_if_ne (tgt := 126) hx hb dX6_readIce_121 (by decide) (fun _ => ?_) (fun c => absurd c (by decide))
                    refine lv_aload_n hx hb dX6_readIce_126 rfl (lv_at hl 4 rfl) ?_
                    refine va_get (D := D) (ci := 6) (v := .ref hr1) (C := RX6) (T := TX6) (N := 3) hx hb hts iX6 hown hK hP 0 rfl rfl 0 (by decide) (hts _ qf_X6_9) (fun _ h => h) rfl dX6_readIce_127 ?_
                    refine lv_iload hx hb dX6_readIce_130 (lv_at hl 0 rfl) ?_
                    refine lv_sipush (v := iZ 400) hx hb dX6_readIce_132 (by decide) ?_
                    refine CWV (As := [.int (iZ (I_30 0)), .int (iZ 400)]) (rest := []) (wc := [(hr1, .inr (4, [.ref tx, .ref kw, .int (iZ (I_37 1)), .int (iZ (I_37 2)), .int (iZ (I_37 3)), .int (iZ (I_37 4)), .int (iZ (I_37 5)), .int (iZ (I_37 6)), .int (iZ (I_37 7)), .long nm_38, .int (iZ (I_37 8)), .int (iZ (I_37 9))])), (tx, .inl (k 0, 900, .inl bf)), (kw, .inl (k 2, 25, .inr (.inl kwf)))]) (wr := [(hq, .inr (6, [.ref hr1, .ref hs, .int (iZ lt)])), (hf, .inl (k 1, 36, .inl f)), (hg, .inl (k 1, 32, .inl g)), (hs, .inr (5, [.ref hN, .ref hf, .ref hg, .int (iZ n), .int (iZ ni), .int (iZ lw), .int (iZ we)])), (hN, .inl (k 2, 6, .inr (.inl nf)))]) hx hb hml hown hts hKK hP hD hS hA (k_takeNumber l D k hr1 tx kw bf kwf (I_37 1) (I_37 2) (I_37 3) (I_37 4) (I_37 5) (I_37 6) (I_37 7) (I_37 8) (I_37 9) nm_38 (show RDI _ from (show (0 ≤ (I_37 1) ∧ (I_37 1) ≤ 900) ∧ (0 ≤ (I_37 2) ∧ (I_37 2) ≤ 900) ∧ (0 ≤ (I_37 3) ∧ (I_37 3) ≤ (I_37 4)) ∧ ((I_37 4) ≤ (I_37 2)) ∧ (0 ≤ (I_37 5) ∧ (I_37 5) ≤ 4) ∧ (-2147483648 ≤ (I_37 6) ∧ (I_37 6) < 2147483648) ∧ (-1 ≤ (I_37 7) ∧ (I_37 7) ≤ 24) from ⟨⟨by omega, by omega⟩, ⟨by omega, by omega⟩, ⟨by omega, by omega⟩, by omega, ⟨by omega, by omega⟩, ⟨by omega, by omega⟩, by omega, by omega⟩)) (I_30 0) 400 ⟨by omega, by omega⟩ ⟨by omega, by omega⟩) ci_X4_takeNumber qm_X6_88 ⟨Nat.le_of_ble_eq_true rfl, Nat.le_of_ble_eq_true rfl⟩ ⟨Nat.le_of_ble_eq_true rfl, Nat.le_of_ble_eq_true rfl⟩ [5, 6, 7] [0, 1, 2, 3, 4] rfl rfl rfl rfl rfl (by decide) 0 rfl rfl rfl hl.1 rfl (Nat.le_of_ble_eq_true rfl) dX6_readIce_135 (fun u_43 H locs hφ hP hD hS => ?_)
                    obtain ⟨I_44, nm_45⟩ := u_43
                    obtain ⟨ah_46, b1h_46, b2h_46, b3h_46, b4h_46, b5h_46, b6h_46, b7h_46⟩ := hφ
                    dsimp only at ah_46 b1h_46 b2h_46 b3h_46 b4h_46 b5h_46 b6h_46 b7h_46
                    refine W.eq (g2 := F0 m 138 ls [.int (iZ (I_44 0))]) rfl ?_
                    rcases (show ((I_44 0) = -1) ∨ ((I_30 0) ≤ (I_44 0) ∧ (I_44 0) ≤ 400) from (by omega)) with s_47 | s_47
                    ·
                      rw [s_47]
                      refine lv_istore (lv' := [(5, .int (iZ (-1))), (4, .int (iZ (I_30 0))), (3, .int (iZ (I_16 0))), (2, .int (iZ (I_8 0))), (1, .int (iZ (ni * 4))), (0, .ref hq)]) hx hb dX6_readIce_138 hl (by decide) rfl (fun ls hl => ?_)
                      refine lv_iload hx hb dX6_readIce_140 (lv_at hl 0 rfl) ?_
                      refine lv_iconst (v := iZ (-1)) hx hb dX6_readIce_142 (by decide) ?_
                      refine lv_icmp_eq (tgt := 158) hx hb dX6_readIce_143 (by decide) (fun _ => ?_) (fun c => absurd (by decide) c)
                      refine lv_iconst (v := iZ 0) hx hb dX6_readIce_158 (by decide) ?_
                      exact EWz hx hb hr hlocks hS (fun i => [0, (I_44 1), (I_44 2), (I_44 3), (I_44 4), (I_44 5), (I_44 6), (I_44 7), (I_44 8), (I_44 9), ni].getD i 0, fun i => [0, nm_45].getD i 0, fun i => [g].getD i (fun _ => 0), fun i => [].getD i (fun _ => 0)) rfl rfl ⟨(show (0 ≤ (I_44 1) ∧ (I_44 1) ≤ 900) ∧ (0 ≤ (I_44 2) ∧ (I_44 2) ≤ 900) ∧ (0 ≤ (I_44 3) ∧ (I_44 3) ≤ (I_44 4)) ∧ ((I_44 4) ≤ (I_44 2)) ∧ (0 ≤ (I_44 5) ∧ (I_44 5) ≤ 4) ∧ (-2147483648 ≤ (I_44 6) ∧ (I_44 6) < 2147483648) ∧ (-1 ≤ (I_44 7) ∧ (I_44 7) ≤ 24) from (by first | with_reducible assumption | exact ⟨⟨by omega, by omega⟩, ⟨by omega, by omega⟩, ⟨by omega, by omega⟩, by omega, ⟨by omega, by omega⟩, ⟨by omega, by omega⟩, by omega, by omega⟩)), (show (I_44 1) = tp from (by omega)), (show (0 = 0 ∨ 0 = 1) ∧ 0 ≤ ni ∧ ni ≤ 8 from (by omega))⟩ (hP.sub [0, 5, 6, 7, 3, 4, 1, 2] rfl) (hD.sub [0, 5, 6, 7, 3, 4, 1, 2] rfl rfl) dX6_readIce_159
                    ·
                      refine lv_istore (lv' := [(5, .int (iZ (I_44 0))), (4, .int (iZ (I_30 0))), (3, .int (iZ (I_16 0))), (2, .int (iZ (I_8 0))), (1, .int (iZ (ni * 4))), (0, .ref hq)]) hx hb dX6_readIce_138 hl (by decide) rfl (fun ls hl => ?_)
                      refine lv_iload hx hb dX6_readIce_140 (lv_at hl 0 rfl) ?_
                      refine lv_iconst (v := iZ (-1)) hx hb dX6_readIce_142 (by decide) ?_
                      refine lv_icmp_eq (tgt := 158) hx hb dX6_readIce_143 (by decide) (fun c_49 => ?_) (fun c_49 => ?_)
                      ·
                        have c_49 := (zeq (x := iZ (I_44 0)) (y := iZ (-1)) rfl rfl ⟨by omega, by omega⟩ ⟨by omega, by omega⟩).mp c_49
                        exact absurd c_49 (by omega)
                      ·
                        have c_49 := mt (zeq (x := iZ (I_44 0)) (y := iZ (-1)) rfl rfl ⟨by omega, by omega⟩ ⟨by omega, by omega⟩).mpr c_49
                        refine lv_aload_n hx hb dX6_readIce_146 rfl (lv_at hl 5 rfl) ?_
                        refine va_get (D := D) (ci := 6) (v := .ref hr1) (C := RX6) (T := TX6) (N := 3) hx hb hts iX6 hown hK hP 0 rfl rfl 0 (by decide) (hts _ qf_X6_9) (fun _ h => h) rfl dX6_readIce_147 ?_
                        refine lv_bipush (v := iZ 59) hx hb dX6_readIce_150 (by decide) ?_
                        refine CWV (As := [.int (iZ 59)]) (rest := []) (wc := [(hr1, .inr (4, [.ref tx, .ref kw, .int (iZ (I_44 1)), .int (iZ (I_44 2)), .int (iZ (I_44 3)), .int (iZ (I_44 4)), .int (iZ (I_44 5)), .int (iZ (I_44 6)), .int (iZ (I_44 7)), .long nm_45, .int (iZ (I_44 8)), .int (iZ (I_44 9))])), (tx, .inl (k 0, 900, .inl bf)), (kw, .inl (k 2, 25, .inr (.inl kwf)))]) (wr := [(hq, .inr (6, [.ref hr1, .ref hs, .int (iZ lt)])), (hf, .inl (k 1, 36, .inl f)), (hg, .inl (k 1, 32, .inl g)), (hs, .inr (5, [.ref hN, .ref hf, .ref hg, .int (iZ n), .int (iZ ni), .int (iZ lw), .int (iZ we)])), (hN, .inl (k 2, 6, .inr (.inl nf)))]) hx hb hml hown hts hKK hP hD hS hA (k_takeSign l D k hr1 tx kw bf kwf (I_44 1) (I_44 2) (I_44 3) (I_44 4) (I_44 5) (I_44 6) (I_44 7) (I_44 8) (I_44 9) nm_45 (show RDI _ from (show (0 ≤ (I_44 1) ∧ (I_44 1) ≤ 900) ∧ (0 ≤ (I_44 2) ∧ (I_44 2) ≤ 900) ∧ (0 ≤ (I_44 3) ∧ (I_44 3) ≤ (I_44 4)) ∧ ((I_44 4) ≤ (I_44 2)) ∧ (0 ≤ (I_44 5) ∧ (I_44 5) ≤ 4) ∧ (-2147483648 ≤ (I_44 6) ∧ (I_44 6) < 2147483648) ∧ (-1 ≤ (I_44 7) ∧ (I_44 7) ≤ 24) from ⟨⟨by omega, by omega⟩, ⟨by omega, by omega⟩, ⟨by omega, by omega⟩, by omega, ⟨by omega, by omega⟩, ⟨by omega, by omega⟩, by omega, by omega⟩)) 59 ⟨by omega, by omega⟩) ci_X4_takeSign qm_X6_67 ⟨Nat.le_of_ble_eq_true rfl, Nat.le_of_ble_eq_true rfl⟩ ⟨Nat.le_of_ble_eq_true rfl, Nat.le_of_ble_eq_true rfl⟩ [5, 6, 7] [0, 1, 2, 3, 4] rfl rfl rfl rfl rfl (by decide) 0 rfl rfl rfl hl.1 rfl (Nat.le_of_ble_eq_true rfl) dX6_readIce_152 (fun u_50 H locs hφ hP hD hS => ?_)
                        obtain ⟨I_51, nm_52⟩ := u_50
                        obtain ⟨ah_53, b1h_53, b2h_53, b3h_53, b4h_53, b5h_53, b6h_53, b7h_53⟩ := hφ
                        dsimp only at ah_53 b1h_53 b2h_53 b3h_53 b4h_53 b5h_53 b6h_53 b7h_53
                        refine W.eq (g2 := F0 m 155 ls [.int (iZ (I_51 0))]) rfl ?_
                        rcases (show ((I_51 0) = 0) ∨ ((I_51 0) = 1) from (by omega)) with s_54 | s_54
                        ·
                          rw [s_54]
                          refine lv_if_ne (tgt := 160) hx hb dX6_readIce_155 (by decide) (fun c => absurd (by decide) c) (fun _ => ?_)
                          refine lv_iconst (v := iZ 0) hx hb dX6_readIce_158 (by decide) ?_
                          exact EWz hx hb hr hlocks hS (fun i => [0, (I_51 1), (I_51 2), (I_51 3), (I_51 4), (I_51 5), (I_51 6), (I_51 7), (I_51 8), (I_51 9), ni].getD i 0, fun i => [0, nm_52].getD i 0, fun i => [g].getD i (fun _ => 0), fun i => [].getD i (fun _ => 0)) rfl rfl ⟨(show (0 ≤ (I_51 1) ∧ (I_51 1) ≤ 900) ∧ (0 ≤ (I_51 2) ∧ (I_51 2) ≤ 900) ∧ (0 ≤ (I_51 3) ∧ (I_51 3) ≤ (I_51 4)) ∧ ((I_51 4) ≤ (I_51 2)) ∧ (0 ≤ (I_51 5) ∧ (I_51 5) ≤ 4) ∧ (-2147483648 ≤ (I_51 6) ∧ (I_51 6) < 2147483648) ∧ (-1 ≤ (I_51 7) ∧ (I_51 7) ≤ 24) from (by first | with_reducible assumption | exact ⟨⟨by omega, by omega⟩, ⟨by omega, by omega⟩, ⟨by omega, by omega⟩, by omega, ⟨by omega, by omega⟩, ⟨by omega, by omega⟩, by omega, by omega⟩)), (show (I_51 1) = tp from (by omega)), (show (0 = 0 ∨ 0 = 1) ∧ 0 ≤ ni ∧ ni ≤ 8 from (by omega))⟩ (hP.sub [0, 5, 6, 7, 3, 4, 1, 2] rfl) (hD.sub [0, 5, 6, 7, 3, 4, 1, 2] rfl rfl) dX6_readIce_159
                        ·
                          rw [s_54]
                          refine lv_if_ne (tgt := 160) hx hb dX6_readIce_155 (by decide) (fun _ => ?_) (fun c => absurd c (by decide))
                          refine lv_aload_n hx hb dX6_readIce_160 rfl (lv_at hl 5 rfl) ?_
                          refine va_get (D := D) (ci := 6) (v := .ref hs) (C := RX6) (T := TX6) (N := 3) hx hb hts iX6 hown hK hP 0 rfl rfl 1 (by decide) (hts _ qf_X6_15) (fun _ h => h) rfl dX6_readIce_161 ?_
                          refine va_get (D := D) (ci := 5) (v := .ref hg) (C := RX5) (T := TX5) (N := 7) hx hb hts iX5 hown hK hP 3 rfl rfl 2 (by decide) (hts _ qf_X6_103) (fun _ h => h) rfl dX6_readIce_164 ?_
                          refine lv_iload_n hx hb dX6_readIce_167 rfl (lv_at hl 4 rfl) ?_
                          refine lv_iconst (v := iZ 0) hx hb dX6_readIce_168 (by decide) ?_
                          refine lv_iadd hx hb dX6_readIce_169 ?_
                          refine lv_topi (fun x_57 ex_57 => ?_)
                          obtain rfl : x_57 = iZ ((ni * 4) + 0) := ex_57.trans (iZ_add (ni * 4) 0)
                          refine lv_iload_n hx hb dX6_readIce_170 rfl (lv_at hl 3 rfl) ?_
                          refine va_iast hx hb hK hP hD hS 2 1 rfl rfl (zin (e := ((ni * 4) + 0)) (n := 32) ⟨by omega, by omega⟩ (by decide)) dX6_readIce_171 (fun H locs hP hD hS => ?_)
                          obtain ⟨f_58, hf_58⟩ : ∃ gg9, gg9 = upd g (iZ ((ni * 4) + 0)).toNatClampNeg (iZ (I_8 0)) := ⟨_, rfl⟩
                          rw [← hf_58] at hP hD
                          refine lv_aload_n hx hb dX6_readIce_172 rfl (lv_at hl 5 rfl) ?_
                          refine va_get (D := D) (ci := 6) (v := .ref hs) (C := RX6) (T := TX6) (N := 3) hx hb hts iX6 hown hK hP 0 rfl rfl 1 (by decide) (hts _ qf_X6_15) (fun _ h => h) rfl dX6_readIce_173 ?_
                          refine va_get (D := D) (ci := 5) (v := .ref hg) (C := RX5) (T := TX5) (N := 7) hx hb hts iX5 hown hK hP 3 rfl rfl 2 (by decide) (hts _ qf_X6_103) (fun _ h => h) rfl dX6_readIce_176 ?_
                          refine lv_iload_n hx hb dX6_readIce_179 rfl (lv_at hl 4 rfl) ?_
                          refine lv_iconst (v := iZ 1) hx hb dX6_readIce_180 (by decide) ?_
                          refine lv_iadd hx hb dX6_readIce_181 ?_
                          refine lv_topi (fun x_59 ex_59 => ?_)
                          obtain rfl : x_59 = iZ ((ni * 4) + 1) := ex_59.trans (iZ_add (ni * 4) 1)
                          refine lv_iload_n hx hb dX6_readIce_182 rfl (lv_at hl 2 rfl) ?_
                          refine va_iast hx hb hK hP hD hS 2 1 rfl rfl (zin (e := ((ni * 4) + 1)) (n := 32) ⟨by omega, by omega⟩ (by decide)) dX6_readIce_183 (fun H locs hP hD hS => ?_)
                          obtain ⟨f_60, hf_60⟩ : ∃ gg9, gg9 = upd f_58 (iZ ((ni * 4) + 1)).toNatClampNeg (iZ (I_16 0)) := ⟨_, rfl⟩
                          rw [← hf_60] at hP hD
                          refine lv_aload_n hx hb dX6_readIce_184 rfl (lv_at hl 5 rfl) ?_
                          refine va_get (D := D) (ci := 6) (v := .ref hs) (C := RX6) (T := TX6) (N := 3) hx hb hts iX6 hown hK hP 0 rfl rfl 1 (by decide) (hts _ qf_X6_15) (fun _ h => h) rfl dX6_readIce_185 ?_
                          refine va_get (D := D) (ci := 5) (v := .ref hg) (C := RX5) (T := TX5) (N := 7) hx hb hts iX5 hown hK hP 3 rfl rfl 2 (by decide) (hts _ qf_X6_103) (fun _ h => h) rfl dX6_readIce_188 ?_
                          refine lv_iload_n hx hb dX6_readIce_191 rfl (lv_at hl 4 rfl) ?_
                          refine lv_iconst (v := iZ 2) hx hb dX6_readIce_192 (by decide) ?_
                          refine lv_iadd hx hb dX6_readIce_193 ?_
                          refine lv_topi (fun x_61 ex_61 => ?_)
                          obtain rfl : x_61 = iZ ((ni * 4) + 2) := ex_61.trans (iZ_add (ni * 4) 2)
                          refine lv_iload hx hb dX6_readIce_194 (lv_at hl 1 rfl) ?_
                          refine va_iast hx hb hK hP hD hS 2 1 rfl rfl (zin (e := ((ni * 4) + 2)) (n := 32) ⟨by omega, by omega⟩ (by decide)) dX6_readIce_196 (fun H locs hP hD hS => ?_)
                          obtain ⟨f_62, hf_62⟩ : ∃ gg9, gg9 = upd f_60 (iZ ((ni * 4) + 2)).toNatClampNeg (iZ (I_30 0)) := ⟨_, rfl⟩
                          rw [← hf_62] at hP hD
                          refine lv_aload_n hx hb dX6_readIce_197 rfl (lv_at hl 5 rfl) ?_
                          refine va_get (D := D) (ci := 6) (v := .ref hs) (C := RX6) (T := TX6) (N := 3) hx hb hts iX6 hown hK hP 0 rfl rfl 1 (by decide) (hts _ qf_X6_15) (fun _ h => h) rfl dX6_readIce_198 ?_
                          refine va_get (D := D) (ci := 5) (v := .ref hg) (C := RX5) (T := TX5) (N := 7) hx hb hts iX5 hown hK hP 3 rfl rfl 2 (by decide) (hts _ qf_X6_103) (fun _ h => h) rfl dX6_readIce_201 ?_
                          refine lv_iload_n hx hb dX6_readIce_204 rfl (lv_at hl 4 rfl) ?_
                          refine lv_iconst (v := iZ 3) hx hb dX6_readIce_205 (by decide) ?_
                          refine lv_iadd hx hb dX6_readIce_206 ?_
                          refine lv_topi (fun x_63 ex_63 => ?_)
                          obtain rfl : x_63 = iZ ((ni * 4) + 3) := ex_63.trans (iZ_add (ni * 4) 3)
                          refine lv_iload hx hb dX6_readIce_207 (lv_at hl 0 rfl) ?_
                          refine va_iast hx hb hK hP hD hS 2 1 rfl rfl (zin (e := ((ni * 4) + 3)) (n := 32) ⟨by omega, by omega⟩ (by decide)) dX6_readIce_209 (fun H locs hP hD hS => ?_)
                          obtain ⟨f_64, hf_64⟩ : ∃ gg9, gg9 = upd f_62 (iZ ((ni * 4) + 3)).toNatClampNeg (iZ (I_44 0)) := ⟨_, rfl⟩
                          rw [← hf_64] at hP hD
                          refine lv_aload_n hx hb dX6_readIce_210 rfl (lv_at hl 5 rfl) ?_
                          refine va_get (D := D) (ci := 6) (v := .ref hs) (C := RX6) (T := TX6) (N := 3) hx hb hts iX6 hown hK hP 0 rfl rfl 1 (by decide) (hts _ qf_X6_15) (fun _ h => h) rfl dX6_readIce_211 ?_
                          refine lv_dup hx hb dX6_readIce_214 rfl ?_
                          refine va_get (D := D) (ci := 5) (v := .int (iZ ni)) (C := RX5) (T := TX5) (N := 7) hx hb hts iX5 hown hK hP 3 rfl rfl 4 (by decide) (hts _ qf_X6_96) (fun _ h => h) rfl dX6_readIce_215 ?_
                          refine lv_iconst (v := iZ 1) hx hb dX6_readIce_218 (by decide) ?_
                          refine lv_iadd hx hb dX6_readIce_219 ?_
                          refine lv_topi (fun x_65 ex_65 => ?_)
                          obtain rfl : x_65 = iZ (ni + 1) := ex_65.trans (iZ_add ni 1)
                          refine va_put (D := D) (ci := 5) (v := .int (iZ (ni + 1))) (ty := .int) (C := RX5) (T := TX5) (N := 7) hx hb hts iX5 tyX5 tyX5_ok nmX5 hown hK hP hD hS 3 rfl rfl 4 (by decide) (hts _ qf_X6_96) (fun _ h => h) rfl (by decide +kernel) rfl rfl (Nat.le_of_ble_eq_true rfl) dX6_readIce_220 (fun H locs hP hD hS => ?_)
                          refine lv_iconst (v := iZ 1) hx hb dX6_readIce_223 (by decide) ?_
                          exact EWz hx hb hr hlocks hS (fun i => [1, (I_51 1), (I_51 2), (I_51 3), (I_51 4), (I_51 5), (I_51 6), (I_51 7), (I_51 8), (I_51 9), (ni + 1)].getD i 0, fun i => [0, nm_52].getD i 0, fun i => [f_64].getD i (fun _ => 0), fun i => [].getD i (fun _ => 0)) rfl rfl ⟨(show (0 ≤ (I_51 1) ∧ (I_51 1) ≤ 900) ∧ (0 ≤ (I_51 2) ∧ (I_51 2) ≤ 900) ∧ (0 ≤ (I_51 3) ∧ (I_51 3) ≤ (I_51 4)) ∧ ((I_51 4) ≤ (I_51 2)) ∧ (0 ≤ (I_51 5) ∧ (I_51 5) ≤ 4) ∧ (-2147483648 ≤ (I_51 6) ∧ (I_51 6) < 2147483648) ∧ (-1 ≤ (I_51 7) ∧ (I_51 7) ≤ 24) from (by first | with_reducible assumption | exact ⟨⟨by omega, by omega⟩, ⟨by omega, by omega⟩, ⟨by omega, by omega⟩, by omega, ⟨by omega, by omega⟩, ⟨by omega, by omega⟩, by omega, by omega⟩)), (show (I_51 1) = tp from (by omega)), (show (1 = 0 ∨ 1 = 1) ∧ 0 ≤ (ni + 1) ∧ (ni + 1) ≤ 8 from (by omega))⟩ (hP.sub [0, 5, 6, 7, 3, 4, 1, 2] rfl) (hD.sub [0, 5, 6, 7, 3, 4, 1, 2] rfl rfl) dX6_readIce_224
      ·
        have c_14 := (zeq (x := iZ (I_8 0)) (y := iZ (-1)) rfl rfl ⟨by omega, by omega⟩ ⟨by omega, by omega⟩).mp c_14
        exact absurd c_14 (by omega)
  ·
    have c_1 := mt (zlt (x := iZ ni) (y := iZ 8) rfl rfl ⟨by omega, by omega⟩ ⟨by omega, by omega⟩).mpr c_1
    refine lv_aload_n hx hb dX6_readIce_12 rfl (lv_at hl 0 rfl) ?_
    refine va_get (D := D) (ci := 6) (v := .ref hr1) (C := RX6) (T := TX6) (N := 3) hx hb hts iX6 hown hK hP 0 rfl rfl 0 (by decide) (hts _ qf_X6_9) (fun _ h => h) rfl dX6_readIce_13 ?_
    refine lv_bipush (v := iZ 6) hx hb dX6_readIce_16 (by decide) ?_
    refine CWV (As := [.int (iZ 6)]) (rest := []) (wc := [(hr1, .inr (4, [.ref tx, .ref kw, .int (iZ tp), .int (iZ ln), .int (iZ pl), .int (iZ en), .int (iZ ki), .int (iZ va), .int (iZ ke), .long nm, .int (iZ fk), .int (iZ fp)])), (tx, .inl (k 0, 900, .inl bf)), (kw, .inl (k 2, 25, .inr (.inl kwf)))]) (wr := [(hq, .inr (6, [.ref hr1, .ref hs, .int (iZ lt)])), (hs, .inr (5, [.ref hN, .ref hf, .ref hg, .int (iZ n), .int (iZ ni), .int (iZ lw), .int (iZ we)])), (hN, .inl (k 2, 6, .inr (.inl nf))), (hf, .inl (k 1, 36, .inl f)), (hg, .inl (k 1, 32, .inl g))]) hx hb hml hown hts hKK hP hD hS hA (k_fail l D k hr1 tx kw bf kwf tp ln pl en ki va ke fk fp nm (show RDI _ from (show (0 ≤ tp ∧ tp ≤ 900) ∧ (0 ≤ ln ∧ ln ≤ 900) ∧ (0 ≤ pl ∧ pl ≤ en) ∧ (en ≤ ln) ∧ (0 ≤ ki ∧ ki ≤ 4) ∧ (-2147483648 ≤ va ∧ va < 2147483648) ∧ (-1 ≤ ke ∧ ke ≤ 24) from ⟨⟨by omega, by omega⟩, ⟨by omega, by omega⟩, ⟨by omega, by omega⟩, by omega, ⟨by omega, by omega⟩, ⟨by omega, by omega⟩, by omega, by omega⟩)) 6 ) ci_X4_fail qm_X6_47 ⟨Nat.le_of_ble_eq_true rfl, Nat.le_of_ble_eq_true rfl⟩ ⟨Nat.le_of_ble_eq_true rfl, Nat.le_of_ble_eq_true rfl⟩ [1, 2, 3] [0, 4, 5, 6, 7] rfl rfl rfl rfl rfl (by decide) 0 rfl rfl rfl hl.1 rfl (Nat.le_of_ble_eq_true rfl) dX6_readIce_18 (fun u_66 H locs hφ hP hD hS => ?_)
    obtain ⟨I_67, nm_68⟩ := u_66
    obtain ⟨ah_69, b1h_69, b2h_69, b3h_69, b4h_69, b5h_69, b6h_69, b7h_69⟩ := hφ
    dsimp only at ah_69 b1h_69 b2h_69 b3h_69 b4h_69 b5h_69 b6h_69 b7h_69
    refine W.eq (g2 := F0 m 21 ls [.int (iZ (I_67 0))]) rfl ?_
    have s_70 : (I_67 0) = 0 := (by omega)
    rw [s_70]
    exact EWz hx hb hr hlocks hS (fun i => [0, (I_67 1), (I_67 2), (I_67 3), (I_67 4), (I_67 5), (I_67 6), (I_67 7), (I_67 8), (I_67 9), ni].getD i 0, fun i => [0, nm_68].getD i 0, fun i => [g].getD i (fun _ => 0), fun i => [].getD i (fun _ => 0)) rfl rfl ⟨(show (0 ≤ (I_67 1) ∧ (I_67 1) ≤ 900) ∧ (0 ≤ (I_67 2) ∧ (I_67 2) ≤ 900) ∧ (0 ≤ (I_67 3) ∧ (I_67 3) ≤ (I_67 4)) ∧ ((I_67 4) ≤ (I_67 2)) ∧ (0 ≤ (I_67 5) ∧ (I_67 5) ≤ 4) ∧ (-2147483648 ≤ (I_67 6) ∧ (I_67 6) < 2147483648) ∧ (-1 ≤ (I_67 7) ∧ (I_67 7) ≤ 24) from (by first | with_reducible assumption | exact ⟨⟨by omega, by omega⟩, ⟨by omega, by omega⟩, ⟨by omega, by omega⟩, by omega, ⟨by omega, by omega⟩, ⟨by omega, by omega⟩, by omega, by omega⟩)), (show (I_67 1) = tp from (by omega)), (show (0 = 0 ∨ 0 = 1) ∧ 0 ≤ ni ∧ ni ≤ 8 from (by omega))⟩ (hP.sub [0, 5, 6, 7, 1, 2, 3, 4] rfl) (hD.sub [0, 5, 6, 7, 1, 2, 3, 4] rfl rfl) dX6_readIce_21
set_option maxHeartbeats 4000000 in
set_option maxRecDepth 100000 in
theorem k_lawOf (l : Launch) (D : va_G) (k : Nat → ClassId) (x : Int) (hx9 : -2147483648 ≤ x ∧ x < 2147483648) : RP l yX6_lawOf cX6_lawOf 1 (some .int) 0 D k [.int (iZ x)] [] (fun z => -1 ≤ z ∧ z ≤ 3) := by
  refine MRP (by decide) (Nat.le_of_ble_eq_true rfl) (fun p e s m below meth c ls hx hb hml hr hlocks hts hown hKK hP hl => ?_)
  have hK := hKK.1
  have hl : lv_has ls 1 [(0, .int (iZ x))] := hl
  refine lv_iload_n hx hb dX6_lawOf_0 rfl (lv_at hl 0 rfl) ?_
  rcases Classical.em (x = 4) with c_1 | c_1
  ·
    refine lv_lookup (tgt := 48) (off := 47) hx hb dX6_lawOf_1 (by decide) (by rw [iZ_ti ⟨by omega, by omega⟩, c_1]; decide) (by decide) ?_
    refine lv_iconst (v := iZ 2) hx hb dX6_lawOf_48 (by decide) ?_
    exact EPi hx hb hr hlocks (by omega) dX6_lawOf_49
  ·
    rcases Classical.em (x = 12) with c_2 | c_2
    ·
      refine lv_lookup (tgt := 44) (off := 43) hx hb dX6_lawOf_1 (by decide) (by rw [iZ_ti ⟨by omega, by omega⟩, c_2]; decide) (by decide) ?_
      refine lv_iconst (v := iZ 0) hx hb dX6_lawOf_44 (by decide) ?_
      exact EPi hx hb hr hlocks (by omega) dX6_lawOf_45
    ·
      rcases Classical.em (x = 13) with c_3 | c_3
      ·
        refine lv_lookup (tgt := 46) (off := 45) hx hb dX6_lawOf_1 (by decide) (by rw [iZ_ti ⟨by omega, by omega⟩, c_3]; decide) (by decide) ?_
        refine lv_iconst (v := iZ 1) hx hb dX6_lawOf_46 (by decide) ?_
        exact EPi hx hb hr hlocks (by omega) dX6_lawOf_47
      ·
        rcases Classical.em (x = 14) with c_4 | c_4
        ·
          refine lv_lookup (tgt := 50) (off := 49) hx hb dX6_lawOf_1 (by decide) (by rw [iZ_ti ⟨by omega, by omega⟩, c_4]; decide) (by decide) ?_
          refine lv_iconst (v := iZ 3) hx hb dX6_lawOf_50 (by decide) ?_
          exact EPi hx hb hr hlocks (by omega) dX6_lawOf_51
        ·
          refine lv_lookup (tgt := 52) (off := 51) hx hb dX6_lawOf_1 (by decide) (by rw [iZ_ti ⟨by omega, by omega⟩]; simp [Op.lookupswitch.offset, show ¬ (x : Int) = 4 from c_1, show ¬ (4 : Int) = x from fun h => c_1 h.symm, show ¬ (x : Int) = 12 from c_2, show ¬ (12 : Int) = x from fun h => c_2 h.symm, show ¬ (x : Int) = 13 from c_3, show ¬ (13 : Int) = x from fun h => c_3 h.symm, show ¬ (x : Int) = 14 from c_4, show ¬ (14 : Int) = x from fun h => c_4 h.symm]) (by decide) ?_
          refine lv_iconst (v := iZ (-1)) hx hb dX6_lawOf_52 (by decide) ?_
          exact EPi hx hb hr hlocks (by omega) dX6_lawOf_53
set_option maxHeartbeats 4000000 in
set_option maxRecDepth 100000 in
theorem k_readLaw (l : Launch) (D : va_G) (k : Nat → ClassId) (hq : Nat) (hr1 : Nat) (tx : Nat) (kw : Nat) (lt : Int) (tp : Int) (ln : Int) (pl : Int) (en : Int) (ki : Int) (va : Int) (ke : Int) (fk : Int) (fp : Int) (nm : Int64) (bf : Nat → Int32) (kwf : Nat → Int64) (hs : Nat) (hN : Nat) (hf : Nat) (hg : Nat) (n : Int) (ni : Int) (lw : Int) (we : Int) (nf : Nat → Int64) (f : Nat → Int32) (g : Nat → Int32) (hI1 : (0 ≤ tp ∧ tp ≤ 900) ∧ (0 ≤ ln ∧ ln ≤ 900) ∧ (0 ≤ pl ∧ pl ≤ en) ∧ (en ≤ ln) ∧ (0 ≤ ki ∧ ki ≤ 4) ∧ (-2147483648 ≤ va ∧ va < 2147483648) ∧ (-1 ≤ ke ∧ ke ≤ 24)) (hlt : lt = 0 ∨ lt = 1) (hlw : 0 ≤ lw ∧ lw ≤ 3) : WD (σ := ((Nat → Int) × (Nat → Int64) × (Nat → Nat → Int32) × (Nat → Nat → Int64))) l yX6_readLaw cX6_readLaw 2 (some .boolean) 3 0 0 D k [.ref hq] [(hq, .inr (6, [.ref hr1, .ref hs, .int (iZ lt)])), (hr1, .inr (4, [.ref tx, .ref kw, .int (iZ tp), .int (iZ ln), .int (iZ pl), .int (iZ en), .int (iZ ki), .int (iZ va), .int (iZ ke), .long nm, .int (iZ fk), .int (iZ fp)])), (tx, .inl (k 0, 900, .inl bf)), (kw, .inl (k 2, 25, .inr (.inl kwf))), (hs, .inr (5, [.ref hN, .ref hf, .ref hg, .int (iZ n), .int (iZ ni), .int (iZ lw), .int (iZ we)])), (hN, .inl (k 2, 6, .inr (.inl nf))), (hf, .inl (k 1, 36, .inl f)), (hg, .inl (k 1, 32, .inl g))] (fun u => some (.int (iZ (u.1 0)))) (fun u => ((0 ≤ (u.1 1) ∧ (u.1 1) ≤ 900) ∧ (0 ≤ (u.1 2) ∧ (u.1 2) ≤ 900) ∧ (0 ≤ (u.1 3) ∧ (u.1 3) ≤ (u.1 4)) ∧ ((u.1 4) ≤ (u.1 2)) ∧ (0 ≤ (u.1 5) ∧ (u.1 5) ≤ 4) ∧ (-2147483648 ≤ (u.1 6) ∧ (u.1 6) < 2147483648) ∧ (-1 ≤ (u.1 7) ∧ (u.1 7) ≤ 24)) ∧ ((u.1 1) = tp) ∧ (((u.1 0) = 0 ∨ (u.1 0) = 1) ∧ ((u.1 11) = 0 ∨ (u.1 11) = 1) ∧ 0 ≤ (u.1 10) ∧ (u.1 10) ≤ 3)) (fun u => [(hq, .inr (6, [.ref hr1, .ref hs, .int (iZ (u.1 11))])), (hr1, .inr (4, [.ref tx, .ref kw, .int (iZ (u.1 1)), .int (iZ (u.1 2)), .int (iZ (u.1 3)), .int (iZ (u.1 4)), .int (iZ (u.1 5)), .int (iZ (u.1 6)), .int (iZ (u.1 7)), .long (u.2.1 1), .int (iZ (u.1 8)), .int (iZ (u.1 9))])), (tx, .inl (k 0, 900, .inl bf)), (kw, .inl (k 2, 25, .inr (.inl kwf))), (hs, .inr (5, [.ref hN, .ref hf, .ref hg, .int (iZ n), .int (iZ ni), .int (iZ (u.1 10)), .int (iZ we)])), (hN, .inl (k 2, 6, .inr (.inl nf))), (hf, .inl (k 1, 36, .inl f)), (hg, .inl (k 1, 32, .inl g))]) := by
  refine MW (by decide) (Nat.le_of_ble_eq_true rfl) (fun p e s m below meth c ls A hx hb hml hr hlocks hin hts hown hKK hP hD hS hA hl => ?_)
  have hK := hKK.1
  have hl : lv_has ls 2 [(0, .ref hq)] := hl
  refine lv_aload_n hx hb dX6_readLaw_0 rfl (lv_at hl 0 rfl) ?_
  refine va_get (D := D) (ci := 6) (v := .int (iZ lt)) (C := RX6) (T := TX6) (N := 3) hx hb hts iX6 hown hK hP 0 rfl rfl 2 (by decide) (hts _ qf_X6_24) (fun _ h => h) rfl dX6_readLaw_1 ?_
  refine lv_if_eq (tgt := 16) hx hb dX6_readLaw_4 (by decide) (fun c_1 => ?_) (fun c_1 => ?_)
  ·
    have c_1 := (zeq (x := iZ lt) (y := iZ 0) rfl rfl ⟨by omega, by omega⟩ ⟨by omega, by omega⟩).mp c_1
    refine lv_aload_n hx hb dX6_readLaw_16 rfl (lv_at hl 0 rfl) ?_
    refine lv_iconst (v := iZ 1) hx hb dX6_readLaw_17 (by decide) ?_
    refine va_put (D := D) (ci := 6) (v := .int (iZ 1)) (ty := .boolean) (C := RX6) (T := TX6) (N := 3) hx hb hts iX6 tyX6 tyX6_ok nmX6 hown hK hP hD hS 0 rfl rfl 2 (by decide) (hts _ qf_X6_24) (fun _ h => h) rfl (by decide +kernel) rfl rfl (Nat.le_of_ble_eq_true rfl) dX6_readLaw_18 (fun H locs hP hD hS => ?_)
    refine lv_aload_n hx hb dX6_readLaw_21 rfl (lv_at hl 0 rfl) ?_
    refine va_get (D := D) (ci := 6) (v := .ref hr1) (C := RX6) (T := TX6) (N := 3) hx hb hts iX6 hown hK hP 0 rfl rfl 0 (by decide) (hts _ qf_X6_9) (fun _ h => h) rfl dX6_readLaw_22 ?_
    refine CWV (As := []) (rest := []) (wc := [(hr1, .inr (4, [.ref tx, .ref kw, .int (iZ tp), .int (iZ ln), .int (iZ pl), .int (iZ en), .int (iZ ki), .int (iZ va), .int (iZ ke), .long nm, .int (iZ fk), .int (iZ fp)])), (tx, .inl (k 0, 900, .inl bf)), (kw, .inl (k 2, 25, .inr (.inl kwf)))]) (wr := [(hq, .inr (6, [.ref hr1, .ref hs, .int (iZ 1)])), (hs, .inr (5, [.ref hN, .ref hf, .ref hg, .int (iZ n), .int (iZ ni), .int (iZ lw), .int (iZ we)])), (hN, .inl (k 2, 6, .inr (.inl nf))), (hf, .inl (k 1, 36, .inl f)), (hg, .inl (k 1, 32, .inl g))]) hx hb hml hown hts hKK hP hD hS hA (k_next l D k hr1 tx kw bf kwf tp ln pl en ki va ke fk fp nm (show RDI _ from (show (0 ≤ tp ∧ tp ≤ 900) ∧ (0 ≤ ln ∧ ln ≤ 900) ∧ (0 ≤ en ∧ en ≤ en) ∧ (en ≤ ln) ∧ (0 ≤ ki ∧ ki ≤ 4) ∧ (-2147483648 ≤ (0 : Int) ∧ (0 : Int) < 2147483648) ∧ (-1 ≤ (-1 : Int) ∧ (-1 : Int) ≤ 24) from ⟨⟨by omega, by omega⟩, ⟨by omega, by omega⟩, ⟨by omega, by omega⟩, by omega, ⟨by omega, by omega⟩, ⟨by omega, by omega⟩, by omega, by omega⟩))) ci_X4_next qm_X6_54 ⟨Nat.le_of_ble_eq_true rfl, Nat.le_of_ble_eq_true rfl⟩ ⟨Nat.le_of_ble_eq_true rfl, Nat.le_of_ble_eq_true rfl⟩ [1, 2, 3] [0, 4, 5, 6, 7] rfl rfl rfl rfl rfl (by decide) 0 rfl rfl rfl hl.1 rfl (Nat.le_of_ble_eq_true rfl) dX6_readLaw_25 (fun u_2 H locs hφ hP hD hS => ?_)
    obtain ⟨I_3, nm_4⟩ := u_2
    obtain ⟨ah_5, b1h_5, b2h_5, b3h_5, b4h_5, b5h_5, b6h_5, b7h_5⟩ := hφ
    dsimp only at ah_5 b1h_5 b2h_5 b3h_5 b4h_5 b5h_5 b6h_5 b7h_5
    refine W.eq (g2 := F0 m 28 ls []) rfl ?_
    refine lv_aload_n hx hb dX6_readLaw_28 rfl (lv_at hl 0 rfl) ?_
    refine va_get (D := D) (ci := 6) (v := .ref hr1) (C := RX6) (T := TX6) (N := 3) hx hb hts iX6 hown hK hP 0 rfl rfl 0 (by decide) (hts _ qf_X6_9) (fun _ h => h) rfl dX6_readLaw_29 ?_
    refine va_get (D := D) (ci := 4) (v := .int (iZ (I_3 7))) (C := RX4) (T := TX4) (N := 12) hx hb hts iX4 hown hK hP 5 rfl rfl 8 (by decide) (hts _ qf_X6_34) (fun _ h => h) rfl dX6_readLaw_32 ?_
    refine CPS (As := [.int (iZ (I_3 7))]) (rest := []) hx hb hml hown hts hKK (hP.sub (ws' := []) [] rfl) (k_lawOf l D k (I_3 7) ⟨by omega, by omega⟩) ci_X6_lawOf qm_X6_106 ⟨Nat.le_of_ble_eq_true rfl, Nat.le_of_ble_eq_true rfl⟩ ⟨Nat.le_of_ble_eq_true rfl, Nat.le_of_ble_eq_true rfl⟩ rfl hl.1 rfl (Nat.le_of_ble_eq_true rfl) dX6_readLaw_35 (fun z_6 hz_6 => ?_)
    refine lv_istore_n (lv' := [(1, .int (iZ z_6)), (0, .ref hq)]) hx hb dX6_readLaw_38 rfl hl (by decide) rfl (fun ls hl => ?_)
    refine lv_iload_n hx hb dX6_readLaw_39 rfl (lv_at hl 0 rfl) ?_
    refine lv_iconst (v := iZ (-1)) hx hb dX6_readLaw_40 (by decide) ?_
    refine lv_icmp_ne (tgt := 53) hx hb dX6_readLaw_41 (by decide) (fun c_7 => ?_) (fun c_7 => ?_)
    ·
      have c_7 := mt (zeq (x := iZ z_6) (y := iZ (-1)) rfl rfl ⟨by omega, by omega⟩ ⟨by omega, by omega⟩).mpr c_7
      refine lv_aload_n hx hb dX6_readLaw_53 rfl (lv_at hl 1 rfl) ?_
      refine va_get (D := D) (ci := 6) (v := .ref hs) (C := RX6) (T := TX6) (N := 3) hx hb hts iX6 hown hK hP 0 rfl rfl 1 (by decide) (hts _ qf_X6_15) (fun _ h => h) rfl dX6_readLaw_54 ?_
      refine lv_iload_n hx hb dX6_readLaw_57 rfl (lv_at hl 0 rfl) ?_
      refine va_put (D := D) (ci := 5) (v := .int (iZ z_6)) (ty := .int) (C := RX5) (T := TX5) (N := 7) hx hb hts iX5 tyX5 tyX5_ok nmX5 hown hK hP hD hS 1 rfl rfl 5 (by decide) (hts _ qf_X6_110) (fun _ h => h) rfl (by decide +kernel) rfl rfl (Nat.le_of_ble_eq_true rfl) dX6_readLaw_58 (fun H locs hP hD hS => ?_)
      refine lv_aload_n hx hb dX6_readLaw_61 rfl (lv_at hl 1 rfl) ?_
      refine va_get (D := D) (ci := 6) (v := .ref hr1) (C := RX6) (T := TX6) (N := 3) hx hb hts iX6 hown hK hP 0 rfl rfl 0 (by decide) (hts _ qf_X6_9) (fun _ h => h) rfl dX6_readLaw_62 ?_
      refine CWV (As := []) (rest := []) (wc := [(hr1, .inr (4, [.ref tx, .ref kw, .int (iZ (I_3 1)), .int (iZ (I_3 2)), .int (iZ (I_3 3)), .int (iZ (I_3 4)), .int (iZ (I_3 5)), .int (iZ (I_3 6)), .int (iZ (I_3 7)), .long nm_4, .int (iZ (I_3 8)), .int (iZ (I_3 9))])), (tx, .inl (k 0, 900, .inl bf)), (kw, .inl (k 2, 25, .inr (.inl kwf)))]) (wr := [(hq, .inr (6, [.ref hr1, .ref hs, .int (iZ 1)])), (hs, .inr (5, [.ref hN, .ref hf, .ref hg, .int (iZ n), .int (iZ ni), .int (iZ z_6), .int (iZ we)])), (hN, .inl (k 2, 6, .inr (.inl nf))), (hf, .inl (k 1, 36, .inl f)), (hg, .inl (k 1, 32, .inl g))]) hx hb hml hown hts hKK hP hD hS hA (k_next l D k hr1 tx kw bf kwf (I_3 1) (I_3 2) (I_3 3) (I_3 4) (I_3 5) (I_3 6) (I_3 7) (I_3 8) (I_3 9) nm_4 (show RDI _ from (show (0 ≤ (I_3 1) ∧ (I_3 1) ≤ 900) ∧ (0 ≤ (I_3 2) ∧ (I_3 2) ≤ 900) ∧ (0 ≤ (I_3 4) ∧ (I_3 4) ≤ (I_3 4)) ∧ ((I_3 4) ≤ (I_3 2)) ∧ (0 ≤ (I_3 5) ∧ (I_3 5) ≤ 4) ∧ (-2147483648 ≤ (0 : Int) ∧ (0 : Int) < 2147483648) ∧ (-1 ≤ (-1 : Int) ∧ (-1 : Int) ≤ 24) from ⟨⟨by omega, by omega⟩, ⟨by omega, by omega⟩, ⟨by omega, by omega⟩, by omega, ⟨by omega, by omega⟩, ⟨by omega, by omega⟩, by omega, by omega⟩))) ci_X4_next qm_X6_54 ⟨Nat.le_of_ble_eq_true rfl, Nat.le_of_ble_eq_true rfl⟩ ⟨Nat.le_of_ble_eq_true rfl, Nat.le_of_ble_eq_true rfl⟩ [5, 6, 7] [0, 1, 2, 3, 4] rfl rfl rfl rfl rfl (by decide) 0 rfl rfl rfl hl.1 rfl (Nat.le_of_ble_eq_true rfl) dX6_readLaw_65 (fun u_8 H locs hφ hP hD hS => ?_)
      obtain ⟨I_9, nm_10⟩ := u_8
      obtain ⟨ah_11, b1h_11, b2h_11, b3h_11, b4h_11, b5h_11, b6h_11, b7h_11⟩ := hφ
      dsimp only at ah_11 b1h_11 b2h_11 b3h_11 b4h_11 b5h_11 b6h_11 b7h_11
      refine W.eq (g2 := F0 m 68 ls []) rfl ?_
      refine lv_aload_n hx hb dX6_readLaw_68 rfl (lv_at hl 1 rfl) ?_
      refine va_get (D := D) (ci := 6) (v := .ref hr1) (C := RX6) (T := TX6) (N := 3) hx hb hts iX6 hown hK hP 0 rfl rfl 0 (by decide) (hts _ qf_X6_9) (fun _ h => h) rfl dX6_readLaw_69 ?_
      refine lv_bipush (v := iZ 59) hx hb dX6_readLaw_72 (by decide) ?_
      refine CWV (As := [.int (iZ 59)]) (rest := []) (wc := [(hr1, .inr (4, [.ref tx, .ref kw, .int (iZ (I_9 1)), .int (iZ (I_9 2)), .int (iZ (I_9 3)), .int (iZ (I_9 4)), .int (iZ (I_9 5)), .int (iZ (I_9 6)), .int (iZ (I_9 7)), .long nm_10, .int (iZ (I_9 8)), .int (iZ (I_9 9))])), (tx, .inl (k 0, 900, .inl bf)), (kw, .inl (k 2, 25, .inr (.inl kwf)))]) (wr := [(hq, .inr (6, [.ref hr1, .ref hs, .int (iZ 1)])), (hs, .inr (5, [.ref hN, .ref hf, .ref hg, .int (iZ n), .int (iZ ni), .int (iZ z_6), .int (iZ we)])), (hN, .inl (k 2, 6, .inr (.inl nf))), (hf, .inl (k 1, 36, .inl f)), (hg, .inl (k 1, 32, .inl g))]) hx hb hml hown hts hKK hP hD hS hA (k_takeSign l D k hr1 tx kw bf kwf (I_9 1) (I_9 2) (I_9 3) (I_9 4) (I_9 5) (I_9 6) (I_9 7) (I_9 8) (I_9 9) nm_10 (show RDI _ from (show (0 ≤ (I_9 1) ∧ (I_9 1) ≤ 900) ∧ (0 ≤ (I_9 2) ∧ (I_9 2) ≤ 900) ∧ (0 ≤ (I_9 3) ∧ (I_9 3) ≤ (I_9 4)) ∧ ((I_9 4) ≤ (I_9 2)) ∧ (0 ≤ (I_9 5) ∧ (I_9 5) ≤ 4) ∧ (-2147483648 ≤ (I_9 6) ∧ (I_9 6) < 2147483648) ∧ (-1 ≤ (I_9 7) ∧ (I_9 7) ≤ 24) from ⟨⟨by omega, by omega⟩, ⟨by omega, by omega⟩, ⟨by omega, by omega⟩, by omega, ⟨by omega, by omega⟩, ⟨by omega, by omega⟩, by omega, by omega⟩)) 59 ⟨by omega, by omega⟩) ci_X4_takeSign qm_X6_67 ⟨Nat.le_of_ble_eq_true rfl, Nat.le_of_ble_eq_true rfl⟩ ⟨Nat.le_of_ble_eq_true rfl, Nat.le_of_ble_eq_true rfl⟩ [5, 6, 7] [0, 1, 2, 3, 4] rfl rfl rfl rfl rfl (by decide) 0 rfl rfl rfl hl.1 rfl (Nat.le_of_ble_eq_true rfl) dX6_readLaw_74 (fun u_12 H locs hφ hP hD hS => ?_)
      obtain ⟨I_13, nm_14⟩ := u_12
      obtain ⟨ah_15, b1h_15, b2h_15, b3h_15, b4h_15, b5h_15, b6h_15, b7h_15⟩ := hφ
      dsimp only at ah_15 b1h_15 b2h_15 b3h_15 b4h_15 b5h_15 b6h_15 b7h_15
      refine W.eq (g2 := F0 m 77 ls [.int (iZ (I_13 0))]) rfl ?_
      rcases (show ((I_13 0) = 0) ∨ ((I_13 0) = 1) from (by omega)) with s_16 | s_16
      ·
        rw [s_16]
        exact EWz hx hb hr hlocks hS (fun i => [0, (I_13 1), (I_13 2), (I_13 3), (I_13 4), (I_13 5), (I_13 6), (I_13 7), (I_13 8), (I_13 9), z_6, 1].getD i 0, fun i => [0, nm_14].getD i 0, fun i => [].getD i (fun _ => 0), fun i => [].getD i (fun _ => 0)) rfl rfl ⟨(show (0 ≤ (I_13 1) ∧ (I_13 1) ≤ 900) ∧ (0 ≤ (I_13 2) ∧ (I_13 2) ≤ 900) ∧ (0 ≤ (I_13 3) ∧ (I_13 3) ≤ (I_13 4)) ∧ ((I_13 4) ≤ (I_13 2)) ∧ (0 ≤ (I_13 5) ∧ (I_13 5) ≤ 4) ∧ (-2147483648 ≤ (I_13 6) ∧ (I_13 6) < 2147483648) ∧ (-1 ≤ (I_13 7) ∧ (I_13 7) ≤ 24) from (by first | with_reducible assumption | exact ⟨⟨by omega, by omega⟩, ⟨by omega, by omega⟩, ⟨by omega, by omega⟩, by omega, ⟨by omega, by omega⟩, ⟨by omega, by omega⟩, by omega, by omega⟩)), (show (I_13 1) = tp from (by omega)), (show (0 = 0 ∨ 0 = 1) ∧ (1 = 0 ∨ 1 = 1) ∧ 0 ≤ z_6 ∧ z_6 ≤ 3 from (by omega))⟩ (hP.sub [0, 5, 6, 7, 1, 2, 3, 4] rfl) (hD.sub [0, 5, 6, 7, 1, 2, 3, 4] rfl rfl) dX6_readLaw_77
      ·
        rw [s_16]
        exact EWz hx hb hr hlocks hS (fun i => [1, (I_13 1), (I_13 2), (I_13 3), (I_13 4), (I_13 5), (I_13 6), (I_13 7), (I_13 8), (I_13 9), z_6, 1].getD i 0, fun i => [0, nm_14].getD i 0, fun i => [].getD i (fun _ => 0), fun i => [].getD i (fun _ => 0)) rfl rfl ⟨(show (0 ≤ (I_13 1) ∧ (I_13 1) ≤ 900) ∧ (0 ≤ (I_13 2) ∧ (I_13 2) ≤ 900) ∧ (0 ≤ (I_13 3) ∧ (I_13 3) ≤ (I_13 4)) ∧ ((I_13 4) ≤ (I_13 2)) ∧ (0 ≤ (I_13 5) ∧ (I_13 5) ≤ 4) ∧ (-2147483648 ≤ (I_13 6) ∧ (I_13 6) < 2147483648) ∧ (-1 ≤ (I_13 7) ∧ (I_13 7) ≤ 24) from (by first | with_reducible assumption | exact ⟨⟨by omega, by omega⟩, ⟨by omega, by omega⟩, ⟨by omega, by omega⟩, by omega, ⟨by omega, by omega⟩, ⟨by omega, by omega⟩, by omega, by omega⟩)), (show (I_13 1) = tp from (by omega)), (show (1 = 0 ∨ 1 = 1) ∧ (1 = 0 ∨ 1 = 1) ∧ 0 ≤ z_6 ∧ z_6 ≤ 3 from (by omega))⟩ (hP.sub [0, 5, 6, 7, 1, 2, 3, 4] rfl) (hD.sub [0, 5, 6, 7, 1, 2, 3, 4] rfl rfl) dX6_readLaw_77
    ·
      have c_7 := (zeq (x := iZ z_6) (y := iZ (-1)) rfl rfl ⟨by omega, by omega⟩ ⟨by omega, by omega⟩).mp c_7
      refine lv_aload_n hx hb dX6_readLaw_44 rfl (lv_at hl 1 rfl) ?_
      refine va_get (D := D) (ci := 6) (v := .ref hr1) (C := RX6) (T := TX6) (N := 3) hx hb hts iX6 hown hK hP 0 rfl rfl 0 (by decide) (hts _ qf_X6_9) (fun _ h => h) rfl dX6_readLaw_45 ?_
      refine lv_iconst (v := iZ 2) hx hb dX6_readLaw_48 (by decide) ?_
      refine CWV (As := [.int (iZ 2)]) (rest := []) (wc := [(hr1, .inr (4, [.ref tx, .ref kw, .int (iZ (I_3 1)), .int (iZ (I_3 2)), .int (iZ (I_3 3)), .int (iZ (I_3 4)), .int (iZ (I_3 5)), .int (iZ (I_3 6)), .int (iZ (I_3 7)), .long nm_4, .int (iZ (I_3 8)), .int (iZ (I_3 9))])), (tx, .inl (k 0, 900, .inl bf)), (kw, .inl (k 2, 25, .inr (.inl kwf)))]) (wr := [(hq, .inr (6, [.ref hr1, .ref hs, .int (iZ 1)])), (hs, .inr (5, [.ref hN, .ref hf, .ref hg, .int (iZ n), .int (iZ ni), .int (iZ lw), .int (iZ we)])), (hN, .inl (k 2, 6, .inr (.inl nf))), (hf, .inl (k 1, 36, .inl f)), (hg, .inl (k 1, 32, .inl g))]) hx hb hml hown hts hKK hP hD hS hA (k_fail l D k hr1 tx kw bf kwf (I_3 1) (I_3 2) (I_3 3) (I_3 4) (I_3 5) (I_3 6) (I_3 7) (I_3 8) (I_3 9) nm_4 (show RDI _ from (show (0 ≤ (I_3 1) ∧ (I_3 1) ≤ 900) ∧ (0 ≤ (I_3 2) ∧ (I_3 2) ≤ 900) ∧ (0 ≤ (I_3 3) ∧ (I_3 3) ≤ (I_3 4)) ∧ ((I_3 4) ≤ (I_3 2)) ∧ (0 ≤ (I_3 5) ∧ (I_3 5) ≤ 4) ∧ (-2147483648 ≤ (I_3 6) ∧ (I_3 6) < 2147483648) ∧ (-1 ≤ (I_3 7) ∧ (I_3 7) ≤ 24) from ⟨⟨by omega, by omega⟩, ⟨by omega, by omega⟩, ⟨by omega, by omega⟩, by omega, ⟨by omega, by omega⟩, ⟨by omega, by omega⟩, by omega, by omega⟩)) 2 ) ci_X4_fail qm_X6_47 ⟨Nat.le_of_ble_eq_true rfl, Nat.le_of_ble_eq_true rfl⟩ ⟨Nat.le_of_ble_eq_true rfl, Nat.le_of_ble_eq_true rfl⟩ [5, 6, 7] [0, 1, 2, 3, 4] rfl rfl rfl rfl rfl (by decide) 0 rfl rfl rfl hl.1 rfl (Nat.le_of_ble_eq_true rfl) dX6_readLaw_49 (fun u_17 H locs hφ hP hD hS => ?_)
      obtain ⟨I_18, nm_19⟩ := u_17
      obtain ⟨ah_20, b1h_20, b2h_20, b3h_20, b4h_20, b5h_20, b6h_20, b7h_20⟩ := hφ
      dsimp only at ah_20 b1h_20 b2h_20 b3h_20 b4h_20 b5h_20 b6h_20 b7h_20
      refine W.eq (g2 := F0 m 52 ls [.int (iZ (I_18 0))]) rfl ?_
      have s_21 : (I_18 0) = 0 := (by omega)
      rw [s_21]
      exact EWz hx hb hr hlocks hS (fun i => [0, (I_18 1), (I_18 2), (I_18 3), (I_18 4), (I_18 5), (I_18 6), (I_18 7), (I_18 8), (I_18 9), lw, 1].getD i 0, fun i => [0, nm_19].getD i 0, fun i => [].getD i (fun _ => 0), fun i => [].getD i (fun _ => 0)) rfl rfl ⟨(show (0 ≤ (I_18 1) ∧ (I_18 1) ≤ 900) ∧ (0 ≤ (I_18 2) ∧ (I_18 2) ≤ 900) ∧ (0 ≤ (I_18 3) ∧ (I_18 3) ≤ (I_18 4)) ∧ ((I_18 4) ≤ (I_18 2)) ∧ (0 ≤ (I_18 5) ∧ (I_18 5) ≤ 4) ∧ (-2147483648 ≤ (I_18 6) ∧ (I_18 6) < 2147483648) ∧ (-1 ≤ (I_18 7) ∧ (I_18 7) ≤ 24) from (by first | with_reducible assumption | exact ⟨⟨by omega, by omega⟩, ⟨by omega, by omega⟩, ⟨by omega, by omega⟩, by omega, ⟨by omega, by omega⟩, ⟨by omega, by omega⟩, by omega, by omega⟩)), (show (I_18 1) = tp from (by omega)), (show (0 = 0 ∨ 0 = 1) ∧ (1 = 0 ∨ 1 = 1) ∧ 0 ≤ lw ∧ lw ≤ 3 from (by omega))⟩ (hP.sub [0, 5, 6, 7, 1, 2, 3, 4] rfl) (hD.sub [0, 5, 6, 7, 1, 2, 3, 4] rfl rfl) dX6_readLaw_52
  ·
    have c_1 := mt (zeq (x := iZ lt) (y := iZ 0) rfl rfl ⟨by omega, by omega⟩ ⟨by omega, by omega⟩).mpr c_1
    refine lv_aload_n hx hb dX6_readLaw_7 rfl (lv_at hl 0 rfl) ?_
    refine va_get (D := D) (ci := 6) (v := .ref hr1) (C := RX6) (T := TX6) (N := 3) hx hb hts iX6 hown hK hP 0 rfl rfl 0 (by decide) (hts _ qf_X6_9) (fun _ h => h) rfl dX6_readLaw_8 ?_
    refine lv_iconst (v := iZ 5) hx hb dX6_readLaw_11 (by decide) ?_
    refine CWV (As := [.int (iZ 5)]) (rest := []) (wc := [(hr1, .inr (4, [.ref tx, .ref kw, .int (iZ tp), .int (iZ ln), .int (iZ pl), .int (iZ en), .int (iZ ki), .int (iZ va), .int (iZ ke), .long nm, .int (iZ fk), .int (iZ fp)])), (tx, .inl (k 0, 900, .inl bf)), (kw, .inl (k 2, 25, .inr (.inl kwf)))]) (wr := [(hq, .inr (6, [.ref hr1, .ref hs, .int (iZ lt)])), (hs, .inr (5, [.ref hN, .ref hf, .ref hg, .int (iZ n), .int (iZ ni), .int (iZ lw), .int (iZ we)])), (hN, .inl (k 2, 6, .inr (.inl nf))), (hf, .inl (k 1, 36, .inl f)), (hg, .inl (k 1, 32, .inl g))]) hx hb hml hown hts hKK hP hD hS hA (k_fail l D k hr1 tx kw bf kwf tp ln pl en ki va ke fk fp nm (show RDI _ from (show (0 ≤ tp ∧ tp ≤ 900) ∧ (0 ≤ ln ∧ ln ≤ 900) ∧ (0 ≤ pl ∧ pl ≤ en) ∧ (en ≤ ln) ∧ (0 ≤ ki ∧ ki ≤ 4) ∧ (-2147483648 ≤ va ∧ va < 2147483648) ∧ (-1 ≤ ke ∧ ke ≤ 24) from ⟨⟨by omega, by omega⟩, ⟨by omega, by omega⟩, ⟨by omega, by omega⟩, by omega, ⟨by omega, by omega⟩, ⟨by omega, by omega⟩, by omega, by omega⟩)) 5 ) ci_X4_fail qm_X6_47 ⟨Nat.le_of_ble_eq_true rfl, Nat.le_of_ble_eq_true rfl⟩ ⟨Nat.le_of_ble_eq_true rfl, Nat.le_of_ble_eq_true rfl⟩ [1, 2, 3] [0, 4, 5, 6, 7] rfl rfl rfl rfl rfl (by decide) 0 rfl rfl rfl hl.1 rfl (Nat.le_of_ble_eq_true rfl) dX6_readLaw_12 (fun u_22 H locs hφ hP hD hS => ?_)
    obtain ⟨I_23, nm_24⟩ := u_22
    obtain ⟨ah_25, b1h_25, b2h_25, b3h_25, b4h_25, b5h_25, b6h_25, b7h_25⟩ := hφ
    dsimp only at ah_25 b1h_25 b2h_25 b3h_25 b4h_25 b5h_25 b6h_25 b7h_25
    refine W.eq (g2 := F0 m 15 ls [.int (iZ (I_23 0))]) rfl ?_
    have s_26 : (I_23 0) = 0 := (by omega)
    rw [s_26]
    exact EWz hx hb hr hlocks hS (fun i => [0, (I_23 1), (I_23 2), (I_23 3), (I_23 4), (I_23 5), (I_23 6), (I_23 7), (I_23 8), (I_23 9), lw, lt].getD i 0, fun i => [0, nm_24].getD i 0, fun i => [].getD i (fun _ => 0), fun i => [].getD i (fun _ => 0)) rfl rfl ⟨(show (0 ≤ (I_23 1) ∧ (I_23 1) ≤ 900) ∧ (0 ≤ (I_23 2) ∧ (I_23 2) ≤ 900) ∧ (0 ≤ (I_23 3) ∧ (I_23 3) ≤ (I_23 4)) ∧ ((I_23 4) ≤ (I_23 2)) ∧ (0 ≤ (I_23 5) ∧ (I_23 5) ≤ 4) ∧ (-2147483648 ≤ (I_23 6) ∧ (I_23 6) < 2147483648) ∧ (-1 ≤ (I_23 7) ∧ (I_23 7) ≤ 24) from (by first | with_reducible assumption | exact ⟨⟨by omega, by omega⟩, ⟨by omega, by omega⟩, ⟨by omega, by omega⟩, by omega, ⟨by omega, by omega⟩, ⟨by omega, by omega⟩, by omega, by omega⟩)), (show (I_23 1) = tp from (by omega)), (show (0 = 0 ∨ 0 = 1) ∧ (lt = 0 ∨ lt = 1) ∧ 0 ≤ lw ∧ lw ≤ 3 from (by omega))⟩ (hP.sub [0, 5, 6, 7, 1, 2, 3, 4] rfl) (hD.sub [0, 5, 6, 7, 1, 2, 3, 4] rfl rfl) dX6_readLaw_15
set_option maxHeartbeats 4000000 in
set_option maxRecDepth 100000 in
theorem k_readInto (l : Launch) (D : va_G) (k : Nat → ClassId) (hq : Nat) (hr1 : Nat) (tx : Nat) (kw : Nat) (lt : Int) (tp : Int) (ln : Int) (pl : Int) (en : Int) (ki : Int) (va : Int) (ke : Int) (fk : Int) (fp : Int) (nm : Int64) (bf : Nat → Int32) (kwf : Nat → Int64) (hs : Nat) (hN : Nat) (hf : Nat) (hg : Nat) (n : Int) (ni : Int) (lw : Int) (we : Int) (nf : Nat → Int64) (f : Nat → Int32) (g : Nat → Int32) (sv : Value) (hI1 : (0 ≤ tp ∧ tp ≤ 900) ∧ (0 ≤ ln ∧ ln ≤ 900) ∧ (0 ≤ pl ∧ pl ≤ en) ∧ (en ≤ ln) ∧ (0 ≤ ki ∧ ki ≤ 4) ∧ (-2147483648 ≤ va ∧ va < 2147483648) ∧ (-1 ≤ ke ∧ ke ≤ 24)) : WD (σ := ((Nat → Int) × (Nat → Int64) × (Nat → Nat → Int32) × (Nat → Nat → Int64))) l yX6_readInto cX6_readInto 4 (some .boolean) 5 0 0 D k [.ref hq, .ref hs] [(hq, .inr (6, [.ref hr1, sv, .int (iZ lt)])), (hr1, .inr (4, [.ref tx, .ref kw, .int (iZ tp), .int (iZ ln), .int (iZ pl), .int (iZ en), .int (iZ ki), .int (iZ va), .int (iZ ke), .long nm, .int (iZ fk), .int (iZ fp)])), (tx, .inl (k 0, 900, .inl bf)), (kw, .inl (k 2, 25, .inr (.inl kwf))), (hs, .inr (5, [.ref hN, .ref hf, .ref hg, .int (iZ n), .int (iZ ni), .int (iZ lw), .int (iZ we)])), (hN, .inl (k 2, 6, .inr (.inl nf))), (hf, .inl (k 1, 36, .inl f)), (hg, .inl (k 1, 32, .inl g))] (fun u => some (.int (iZ (u.1 0)))) (fun u => ((0 ≤ (u.1 1) ∧ (u.1 1) ≤ 900) ∧ (0 ≤ (u.1 2) ∧ (u.1 2) ≤ 900) ∧ (0 ≤ (u.1 3) ∧ (u.1 3) ≤ (u.1 4)) ∧ ((u.1 4) ≤ (u.1 2)) ∧ (0 ≤ (u.1 5) ∧ (u.1 5) ≤ 4) ∧ (-2147483648 ≤ (u.1 6) ∧ (u.1 6) < 2147483648) ∧ (-1 ≤ (u.1 7) ∧ (u.1 7) ≤ 24)) ∧ ((u.1 1) = tp) ∧ ((u.1 0) = 0 ∨ (u.1 0) = 1) ∧ ((0 ≤ (u.1 11) ∧ (u.1 11) ≤ 8) ∧ (0 ≤ (u.1 12) ∧ (u.1 12) ≤ 3)) ∧ ((u.1 14) = 0 ∨ (u.1 14) = 1) ∧ (-2147483648 ≤ (u.1 13) ∧ (u.1 13) < 2147483648) ∧ ((u.1 0) = 1 → (0 ≤ (u.1 10) ∧ (u.1 10) ≤ 6) ∧ SKZ (u.2.2.1 0) (u.1 10))) (fun u => [(hq, .inr (6, [.ref hr1, .ref hs, .int (iZ (u.1 14))])), (hr1, .inr (4, [.ref tx, .ref kw, .int (iZ (u.1 1)), .int (iZ (u.1 2)), .int (iZ (u.1 3)), .int (iZ (u.1 4)), .int (iZ (u.1 5)), .int (iZ (u.1 6)), .int (iZ (u.1 7)), .long (u.2.1 1), .int (iZ (u.1 8)), .int (iZ (u.1 9))])), (tx, .inl (k 0, 900, .inl bf)), (kw, .inl (k 2, 25, .inr (.inl kwf))), (hs, .inr (5, [.ref hN, .ref hf, .ref hg, .int (iZ (u.1 10)), .int (iZ (u.1 11)), .int (iZ (u.1 12)), .int (iZ (u.1 13))])), (hN, .inl (k 2, 6, .inr (.inl (u.2.2.2 0)))), (hf, .inl (k 1, 36, .inl (u.2.2.1 0))), (hg, .inl (k 1, 32, .inl (u.2.2.1 1)))]) := by
  refine MW (by decide) (Nat.le_of_ble_eq_true rfl) (fun p e s m below meth c ls A hx hb hml hr hlocks hin hts hown hKK hP hD hS hA hl => ?_)
  have hK := hKK.1
  have hl : lv_has ls 4 [(0, .ref hq), (1, .ref hs)] := hl
  refine lv_aload_n hx hb dX6_readInto_0 rfl (lv_at hl 0 rfl) ?_
  refine lv_aload_n hx hb dX6_readInto_1 rfl (lv_at hl 1 rfl) ?_
  refine va_put (D := D) (ci := 6) (v := .ref hs) (ty := (tyX6 1)) (C := RX6) (T := TX6) (N := 3) hx hb hts iX6 tyX6 tyX6_ok nmX6 hown hK hP hD hS 0 rfl rfl 1 (by decide) (hts _ qf_X6_15) (fun _ h => h) rfl (by decide +kernel) rfl rfl (Nat.le_of_ble_eq_true rfl) dX6_readInto_2 (fun H locs hP hD hS => ?_)
  refine lv_aload_n hx hb dX6_readInto_5 rfl (lv_at hl 0 rfl) ?_
  refine va_get (D := D) (ci := 6) (v := .ref hs) (C := RX6) (T := TX6) (N := 3) hx hb hts iX6 hown hK hP 0 rfl rfl 1 (by decide) (hts _ qf_X6_15) (fun _ h => h) rfl dX6_readInto_6 ?_
  refine CWV (As := []) (rest := []) (wc := [(hs, .inr (5, [.ref hN, .ref hf, .ref hg, .int (iZ n), .int (iZ ni), .int (iZ lw), .int (iZ we)])), (hN, .inl (k 2, 6, .inr (.inl nf))), (hf, .inl (k 1, 36, .inl f)), (hg, .inl (k 1, 32, .inl g))]) (wr := [(hq, .inr (6, [.ref hr1, .ref hs, .int (iZ lt)])), (hr1, .inr (4, [.ref tx, .ref kw, .int (iZ tp), .int (iZ ln), .int (iZ pl), .int (iZ en), .int (iZ ki), .int (iZ va), .int (iZ ke), .long nm, .int (iZ fk), .int (iZ fp)])), (tx, .inl (k 0, 900, .inl bf)), (kw, .inl (k 2, 25, .inr (.inl kwf)))]) hx hb hml hown hts hKK hP hD hS hA (k_sclear l D k hs hN hf hg n ni lw we nf f g) ci_X5_clear qm_X6_19 ⟨Nat.le_of_ble_eq_true rfl, Nat.le_of_ble_eq_true rfl⟩ ⟨Nat.le_of_ble_eq_true rfl, Nat.le_of_ble_eq_true rfl⟩ [4, 5, 6, 7] [0, 1, 2, 3] rfl rfl rfl rfl rfl (by decide) 0 rfl rfl rfl hl.1 rfl (Nat.le_of_ble_eq_true rfl) dX6_readInto_9 (fun u_1 H locs hφ hP hD hS => ?_)
  obtain ⟨I_2, L_3, F_4, G_5⟩ := u_1
  have p_7 : ∀ e : Int, 0 ≤ e → e < 36 → gz (F_4 0) e = 0 := hφ
  refine W.eq (g2 := F0 m 12 ls []) rfl ?_
  refine lv_aload_n hx hb dX6_readInto_12 rfl (lv_at hl 0 rfl) ?_
  refine lv_iconst (v := iZ 0) hx hb dX6_readInto_13 (by decide) ?_
  refine va_put (D := D) (ci := 6) (v := .int (iZ 0)) (ty := .boolean) (C := RX6) (T := TX6) (N := 3) hx hb hts iX6 tyX6 tyX6_ok nmX6 hown hK hP hD hS 0 rfl rfl 2 (by decide) (hts _ qf_X6_24) (fun _ h => h) rfl (by decide +kernel) rfl rfl (Nat.le_of_ble_eq_true rfl) dX6_readInto_14 (fun H locs hP hD hS => ?_)
  refine lv_iconst (v := iZ 1) hx hb dX6_readInto_17 (by decide) ?_
  refine lv_istore_n (lv' := [(2, .int (iZ 1)), (0, .ref hq), (1, .ref hs)]) hx hb dX6_readInto_18 rfl hl (by decide) rfl (fun ls hl => ?_)
  refine lv_iconst (v := iZ 0) hx hb dX6_readInto_19 (by decide) ?_
  refine lv_istore_n (lv' := [(3, .int (iZ 0)), (2, .int (iZ 1)), (0, .ref hq), (1, .ref hs)]) hx hb dX6_readInto_20 rfl hl (by decide) rfl (fun ls hl => ?_)
  have HL1 : ∀ (fu : Nat) (i fi lt3 n3 ni3 lw3 we3 tp3 ln3 pl3 en3 ki3 va3 ke3 fk3 fp3 : Int) (nm3 : Int64) (nf3 : Nat → Int64) (f3 g3 : Nat → Int32) (H : Heap) (locs : List Loc) (ls : Array Slot), (902 - i) < (fu : Int) → 0 ≤ i → i ≤ 901 → (fi = 0 ∨ fi = 1) → (0 ≤ ni3 ∧ ni3 ≤ 8) → (lt3 = 0 ∨ lt3 = 1) → (0 ≤ lw3 ∧ lw3 ≤ 3) → (-2147483648 ≤ we3 ∧ we3 < 2147483648) → (tp3 = tp ∧ (0 ≤ tp3 ∧ tp3 ≤ 900) ∧ (0 ≤ ln3 ∧ ln3 ≤ 900) ∧ (0 ≤ pl3 ∧ pl3 ≤ en3) ∧ (en3 ≤ ln3) ∧ (0 ≤ ki3 ∧ ki3 ≤ 4) ∧ (-2147483648 ≤ va3 ∧ va3 < 2147483648) ∧ (-1 ≤ ke3 ∧ ke3 ≤ 24)) → (fi = 1 → (0 ≤ n3 ∧ n3 ≤ 6) ∧ SKZ f3 n3) → va_P D vwCl [(hq, .inr (6, [.ref hr1, .ref hs, .int (iZ lt3)])), (hr1, .inr (4, [.ref tx, .ref kw, .int (iZ tp3), .int (iZ ln3), .int (iZ pl3), .int (iZ en3), .int (iZ ki3), .int (iZ va3), .int (iZ ke3), .long nm3, .int (iZ fk3), .int (iZ fp3)])), (tx, .inl (k 0, 900, .inl bf)), (kw, .inl (k 2, 25, .inr (.inl kwf))), (hs, .inr (5, [.ref hN, .ref hf, .ref hg, .int (iZ n3), .int (iZ ni3), .int (iZ lw3), .int (iZ we3)])), (hN, .inl (k 2, 6, .inr (.inl nf3))), (hf, .inl (k 1, 36, .inl f3)), (hg, .inl (k 1, 32, .inl g3))] H → va_D A [(hq, .inr (6, [.ref hr1, .ref hs, .int (iZ lt3)])), (hr1, .inr (4, [.ref tx, .ref kw, .int (iZ tp3), .int (iZ ln3), .int (iZ pl3), .int (iZ en3), .int (iZ ki3), .int (iZ va3), .int (iZ ke3), .long nm3, .int (iZ fk3), .int (iZ fp3)])), (tx, .inl (k 0, 900, .inl bf)), (kw, .inl (k 2, 25, .inr (.inl kwf))), (hs, .inr (5, [.ref hN, .ref hf, .ref hg, .int (iZ n3), .int (iZ ni3), .int (iZ lw3), .int (iZ we3)])), (hN, .inl (k 2, 6, .inr (.inl nf3))), (hf, .inl (k 1, 36, .inl f3)), (hg, .inl (k 1, 32, .inl g3))] → va_S A s.heap H locs → lv_has ls 4 [(3, .int (iZ i)), (2, .int (iZ fi)), (0, .ref hq), (1, .ref hs)] → W p l e (rj 5 0 0) s m [.ref hq, .ref hs].toArray below meth c H locs 0 0 (MQ below (QW (σ := ((Nat → Int) × (Nat → Int64) × (Nat → Nat → Int32) × (Nat → Nat → Int64))) (fun u => some (.int (iZ (u.1 0)))) (fun u => ((0 ≤ (u.1 1) ∧ (u.1 1) ≤ 900) ∧ (0 ≤ (u.1 2) ∧ (u.1 2) ≤ 900) ∧ (0 ≤ (u.1 3) ∧ (u.1 3) ≤ (u.1 4)) ∧ ((u.1 4) ≤ (u.1 2)) ∧ (0 ≤ (u.1 5) ∧ (u.1 5) ≤ 4) ∧ (-2147483648 ≤ (u.1 6) ∧ (u.1 6) < 2147483648) ∧ (-1 ≤ (u.1 7) ∧ (u.1 7) ≤ 24)) ∧ ((u.1 1) = tp) ∧ ((u.1 0) = 0 ∨ (u.1 0) = 1) ∧ ((0 ≤ (u.1 11) ∧ (u.1 11) ≤ 8) ∧ (0 ≤ (u.1 12) ∧ (u.1 12) ≤ 3)) ∧ ((u.1 14) = 0 ∨ (u.1 14) = 1) ∧ (-2147483648 ≤ (u.1 13) ∧ (u.1 13) < 2147483648) ∧ ((u.1 0) = 1 → (0 ≤ (u.1 10) ∧ (u.1 10) ≤ 6) ∧ SKZ (u.2.2.1 0) (u.1 10))) (fun u => [(hq, .inr (6, [.ref hr1, .ref hs, .int (iZ (u.1 14))])), (hr1, .inr (4, [.ref tx, .ref kw, .int (iZ (u.1 1)), .int (iZ (u.1 2)), .int (iZ (u.1 3)), .int (iZ (u.1 4)), .int (iZ (u.1 5)), .int (iZ (u.1 6)), .int (iZ (u.1 7)), .long (u.2.1 1), .int (iZ (u.1 8)), .int (iZ (u.1 9))])), (tx, .inl (k 0, 900, .inl bf)), (kw, .inl (k 2, 25, .inr (.inl kwf))), (hs, .inr (5, [.ref hN, .ref hf, .ref hg, .int (iZ (u.1 10)), .int (iZ (u.1 11)), .int (iZ (u.1 12)), .int (iZ (u.1 13))])), (hN, .inl (k 2, 6, .inr (.inl (u.2.2.2 0)))), (hf, .inl (k 1, 36, .inl (u.2.2.1 0))), (hg, .inl (k 1, 32, .inl (u.2.2.1 1)))]) D A) [.ref hq, .ref hs].toArray s 0 0 A) (F0 m 21 ls []) := by
    intro fu
    induction fu with
    | zero => intro i fi lt3 n3 ni3 lw3 we3 tp3 ln3 pl3 en3 ki3 va3 ke3 fk3 fp3 nm3 nf3 f3 g3 H locs ls hμ1 hi1 hi2 hfi hni3 hlt3 hlw3 hwe3 hrd3 hfz hP hD hS hl; exact absurd hμ1 (by omega)
    | succ fu ih1 =>
      intro i fi lt3 n3 ni3 lw3 we3 tp3 ln3 pl3 en3 ki3 va3 ke3 fk3 fp3 nm3 nf3 f3 g3 H locs ls hμ1 hi1 hi2 hfi hni3 hlt3 hlw3 hwe3 hrd3 hfz hP hD hS hl
      refine lv_iload_n hx hb dX6_readInto_21 rfl (lv_at hl 0 rfl) ?_
      refine lv_sipush (v := iZ 900) hx hb dX6_readInto_22 (by decide) ?_
      refine lv_icmp_gt (tgt := 123) hx hb dX6_readInto_25 (by decide) (fun c_8 => ?_) (fun c_8 => ?_)
      ·
        have c_8 := (zlt (x := iZ 900) (y := iZ i) rfl rfl ⟨by omega, by omega⟩ ⟨by omega, by omega⟩).mp c_8
        refine lv_iload_n hx hb dX6_readInto_123 rfl (lv_at hl 1 rfl) ?_
        rcases hfi with rfl | rfl
        ·
          exact EWz hx hb hr hlocks hS (fun i => [0, tp3, ln3, pl3, en3, ki3, va3, ke3, fk3, fp3, n3, ni3, lw3, we3, lt3].getD i 0, fun i => [0, nm3].getD i 0, fun i => [f3, g3].getD i (fun _ => 0), fun i => [nf3].getD i (fun _ => 0)) rfl rfl ⟨(show (0 ≤ tp3 ∧ tp3 ≤ 900) ∧ (0 ≤ ln3 ∧ ln3 ≤ 900) ∧ (0 ≤ pl3 ∧ pl3 ≤ en3) ∧ (en3 ≤ ln3) ∧ (0 ≤ ki3 ∧ ki3 ≤ 4) ∧ (-2147483648 ≤ va3 ∧ va3 < 2147483648) ∧ (-1 ≤ ke3 ∧ ke3 ≤ 24) from (by first | with_reducible assumption | exact ⟨⟨by omega, by omega⟩, ⟨by omega, by omega⟩, ⟨by omega, by omega⟩, by omega, ⟨by omega, by omega⟩, ⟨by omega, by omega⟩, by omega, by omega⟩)), (show tp3 = tp from (by omega)), (show 0 = 0 ∨ 0 = 1 from (by omega)), (show (0 ≤ ni3 ∧ ni3 ≤ 8) ∧ (0 ≤ lw3 ∧ lw3 ≤ 3) from (by omega)), (show lt3 = 0 ∨ lt3 = 1 from (by omega)), (show -2147483648 ≤ we3 ∧ we3 < 2147483648 from ⟨by omega, by omega⟩), (show 0 = 1 → (0 ≤ n3 ∧ n3 ≤ 6) ∧ SKZ f3 n3 from hfz)⟩ (hP.sub [0, 1, 2, 3, 4, 5, 6, 7] rfl) (hD.sub [0, 1, 2, 3, 4, 5, 6, 7] rfl rfl) dX6_readInto_124
        ·
          exact EWz hx hb hr hlocks hS (fun i => [1, tp3, ln3, pl3, en3, ki3, va3, ke3, fk3, fp3, n3, ni3, lw3, we3, lt3].getD i 0, fun i => [0, nm3].getD i 0, fun i => [f3, g3].getD i (fun _ => 0), fun i => [nf3].getD i (fun _ => 0)) rfl rfl ⟨(show (0 ≤ tp3 ∧ tp3 ≤ 900) ∧ (0 ≤ ln3 ∧ ln3 ≤ 900) ∧ (0 ≤ pl3 ∧ pl3 ≤ en3) ∧ (en3 ≤ ln3) ∧ (0 ≤ ki3 ∧ ki3 ≤ 4) ∧ (-2147483648 ≤ va3 ∧ va3 < 2147483648) ∧ (-1 ≤ ke3 ∧ ke3 ≤ 24) from (by first | with_reducible assumption | exact ⟨⟨by omega, by omega⟩, ⟨by omega, by omega⟩, ⟨by omega, by omega⟩, by omega, ⟨by omega, by omega⟩, ⟨by omega, by omega⟩, by omega, by omega⟩)), (show tp3 = tp from (by omega)), (show 1 = 0 ∨ 1 = 1 from (by omega)), (show (0 ≤ ni3 ∧ ni3 ≤ 8) ∧ (0 ≤ lw3 ∧ lw3 ≤ 3) from (by omega)), (show lt3 = 0 ∨ lt3 = 1 from (by omega)), (show -2147483648 ≤ we3 ∧ we3 < 2147483648 from ⟨by omega, by omega⟩), (show 1 = 1 → (0 ≤ n3 ∧ n3 ≤ 6) ∧ SKZ f3 n3 from hfz)⟩ (hP.sub [0, 1, 2, 3, 4, 5, 6, 7] rfl) (hD.sub [0, 1, 2, 3, 4, 5, 6, 7] rfl rfl) dX6_readInto_124
      ·
        have c_8 := mt (zlt (x := iZ 900) (y := iZ i) rfl rfl ⟨by omega, by omega⟩ ⟨by omega, by omega⟩).mpr c_8
        refine lv_iload_n hx hb dX6_readInto_28 rfl (lv_at hl 1 rfl) ?_
        refine lv_if_eq (tgt := 123) hx hb dX6_readInto_29 (by decide) (fun c_9 => ?_) (fun c_9 => ?_)
        ·
          have c_9 := (zeq (x := iZ fi) (y := iZ 0) rfl rfl ⟨by omega, by omega⟩ ⟨by omega, by omega⟩).mp c_9
          refine lv_iload_n hx hb dX6_readInto_123 rfl (lv_at hl 1 rfl) ?_
          rcases hfi with rfl | rfl
          ·
            exact EWz hx hb hr hlocks hS (fun i => [0, tp3, ln3, pl3, en3, ki3, va3, ke3, fk3, fp3, n3, ni3, lw3, we3, lt3].getD i 0, fun i => [0, nm3].getD i 0, fun i => [f3, g3].getD i (fun _ => 0), fun i => [nf3].getD i (fun _ => 0)) rfl rfl ⟨(show (0 ≤ tp3 ∧ tp3 ≤ 900) ∧ (0 ≤ ln3 ∧ ln3 ≤ 900) ∧ (0 ≤ pl3 ∧ pl3 ≤ en3) ∧ (en3 ≤ ln3) ∧ (0 ≤ ki3 ∧ ki3 ≤ 4) ∧ (-2147483648 ≤ va3 ∧ va3 < 2147483648) ∧ (-1 ≤ ke3 ∧ ke3 ≤ 24) from (by first | with_reducible assumption | exact ⟨⟨by omega, by omega⟩, ⟨by omega, by omega⟩, ⟨by omega, by omega⟩, by omega, ⟨by omega, by omega⟩, ⟨by omega, by omega⟩, by omega, by omega⟩)), (show tp3 = tp from (by omega)), (show 0 = 0 ∨ 0 = 1 from (by omega)), (show (0 ≤ ni3 ∧ ni3 ≤ 8) ∧ (0 ≤ lw3 ∧ lw3 ≤ 3) from (by omega)), (show lt3 = 0 ∨ lt3 = 1 from (by omega)), (show -2147483648 ≤ we3 ∧ we3 < 2147483648 from ⟨by omega, by omega⟩), (show 0 = 1 → (0 ≤ n3 ∧ n3 ≤ 6) ∧ SKZ f3 n3 from hfz)⟩ (hP.sub [0, 1, 2, 3, 4, 5, 6, 7] rfl) (hD.sub [0, 1, 2, 3, 4, 5, 6, 7] rfl rfl) dX6_readInto_124
          ·
            exact EWz hx hb hr hlocks hS (fun i => [1, tp3, ln3, pl3, en3, ki3, va3, ke3, fk3, fp3, n3, ni3, lw3, we3, lt3].getD i 0, fun i => [0, nm3].getD i 0, fun i => [f3, g3].getD i (fun _ => 0), fun i => [nf3].getD i (fun _ => 0)) rfl rfl ⟨(show (0 ≤ tp3 ∧ tp3 ≤ 900) ∧ (0 ≤ ln3 ∧ ln3 ≤ 900) ∧ (0 ≤ pl3 ∧ pl3 ≤ en3) ∧ (en3 ≤ ln3) ∧ (0 ≤ ki3 ∧ ki3 ≤ 4) ∧ (-2147483648 ≤ va3 ∧ va3 < 2147483648) ∧ (-1 ≤ ke3 ∧ ke3 ≤ 24) from (by first | with_reducible assumption | exact ⟨⟨by omega, by omega⟩, ⟨by omega, by omega⟩, ⟨by omega, by omega⟩, by omega, ⟨by omega, by omega⟩, ⟨by omega, by omega⟩, by omega, by omega⟩)), (show tp3 = tp from (by omega)), (show 1 = 0 ∨ 1 = 1 from (by omega)), (show (0 ≤ ni3 ∧ ni3 ≤ 8) ∧ (0 ≤ lw3 ∧ lw3 ≤ 3) from (by omega)), (show lt3 = 0 ∨ lt3 = 1 from (by omega)), (show -2147483648 ≤ we3 ∧ we3 < 2147483648 from ⟨by omega, by omega⟩), (show 1 = 1 → (0 ≤ n3 ∧ n3 ≤ 6) ∧ SKZ f3 n3 from hfz)⟩ (hP.sub [0, 1, 2, 3, 4, 5, 6, 7] rfl) (hD.sub [0, 1, 2, 3, 4, 5, 6, 7] rfl rfl) dX6_readInto_124
        ·
          have c_9 := mt (zeq (x := iZ fi) (y := iZ 0) rfl rfl ⟨by omega, by omega⟩ ⟨by omega, by omega⟩).mpr c_9
          obtain ⟨hn3, hz3⟩ := hfz (by omega)
          refine lv_aload_n hx hb dX6_readInto_32 rfl (lv_at hl 2 rfl) ?_
          refine va_get (D := D) (ci := 6) (v := .ref hr1) (C := RX6) (T := TX6) (N := 3) hx hb hts iX6 hown hK hP 0 rfl rfl 0 (by decide) (hts _ qf_X6_9) (fun _ h => h) rfl dX6_readInto_33 ?_
          refine CPV (As := []) (rest := []) hx hb hml hown hts hKK (hP.sub (ws' := [(hr1, .inr (4, [.ref tx, .ref kw, .int (iZ tp3), .int (iZ ln3), .int (iZ pl3), .int (iZ en3), .int (iZ ki3), .int (iZ va3), .int (iZ ke3), .long nm3, .int (iZ fk3), .int (iZ fp3)]))]) [1] rfl) (k_isAtEnd l D k hr1 [.ref tx, .ref kw, .int (iZ tp3), .int (iZ ln3), .int (iZ pl3), .int (iZ en3), .int (iZ ki3), .int (iZ va3), .int (iZ ke3), .long nm3, .int (iZ fk3), .int (iZ fp3)] ki3 rfl ⟨by omega, by omega⟩) ci_X4_isAtEnd qm_X6_28 ⟨Nat.le_of_ble_eq_true rfl, Nat.le_of_ble_eq_true rfl⟩ ⟨Nat.le_of_ble_eq_true rfl, Nat.le_of_ble_eq_true rfl⟩ 0 rfl rfl rfl hl.1 rfl (Nat.le_of_ble_eq_true rfl) dX6_readInto_36 (fun z_10 hz_10 => ?_)
          refine lv_if_ne (tgt := 123) hx hb dX6_readInto_39 (by decide) (fun c_11 => ?_) (fun c_11 => ?_)
          ·
            have c_11 := mt (zeq (x := iZ z_10) (y := iZ 0) rfl rfl ⟨by omega, by omega⟩ ⟨by omega, by omega⟩).mpr c_11
            refine lv_iload_n hx hb dX6_readInto_123 rfl (lv_at hl 1 rfl) ?_
            rcases hfi with rfl | rfl
            ·
              exact EWz hx hb hr hlocks hS (fun i => [0, tp3, ln3, pl3, en3, ki3, va3, ke3, fk3, fp3, n3, ni3, lw3, we3, lt3].getD i 0, fun i => [0, nm3].getD i 0, fun i => [f3, g3].getD i (fun _ => 0), fun i => [nf3].getD i (fun _ => 0)) rfl rfl ⟨(show (0 ≤ tp3 ∧ tp3 ≤ 900) ∧ (0 ≤ ln3 ∧ ln3 ≤ 900) ∧ (0 ≤ pl3 ∧ pl3 ≤ en3) ∧ (en3 ≤ ln3) ∧ (0 ≤ ki3 ∧ ki3 ≤ 4) ∧ (-2147483648 ≤ va3 ∧ va3 < 2147483648) ∧ (-1 ≤ ke3 ∧ ke3 ≤ 24) from (by first | with_reducible assumption | exact ⟨⟨by omega, by omega⟩, ⟨by omega, by omega⟩, ⟨by omega, by omega⟩, by omega, ⟨by omega, by omega⟩, ⟨by omega, by omega⟩, by omega, by omega⟩)), (show tp3 = tp from (by omega)), (show 0 = 0 ∨ 0 = 1 from (by omega)), (show (0 ≤ ni3 ∧ ni3 ≤ 8) ∧ (0 ≤ lw3 ∧ lw3 ≤ 3) from (by omega)), (show lt3 = 0 ∨ lt3 = 1 from (by omega)), (show -2147483648 ≤ we3 ∧ we3 < 2147483648 from ⟨by omega, by omega⟩), (show 0 = 1 → (0 ≤ n3 ∧ n3 ≤ 6) ∧ SKZ f3 n3 from hfz)⟩ (hP.sub [0, 1, 2, 3, 4, 5, 6, 7] rfl) (hD.sub [0, 1, 2, 3, 4, 5, 6, 7] rfl rfl) dX6_readInto_124
            ·
              exact EWz hx hb hr hlocks hS (fun i => [1, tp3, ln3, pl3, en3, ki3, va3, ke3, fk3, fp3, n3, ni3, lw3, we3, lt3].getD i 0, fun i => [0, nm3].getD i 0, fun i => [f3, g3].getD i (fun _ => 0), fun i => [nf3].getD i (fun _ => 0)) rfl rfl ⟨(show (0 ≤ tp3 ∧ tp3 ≤ 900) ∧ (0 ≤ ln3 ∧ ln3 ≤ 900) ∧ (0 ≤ pl3 ∧ pl3 ≤ en3) ∧ (en3 ≤ ln3) ∧ (0 ≤ ki3 ∧ ki3 ≤ 4) ∧ (-2147483648 ≤ va3 ∧ va3 < 2147483648) ∧ (-1 ≤ ke3 ∧ ke3 ≤ 24) from (by first | with_reducible assumption | exact ⟨⟨by omega, by omega⟩, ⟨by omega, by omega⟩, ⟨by omega, by omega⟩, by omega, ⟨by omega, by omega⟩, ⟨by omega, by omega⟩, by omega, by omega⟩)), (show tp3 = tp from (by omega)), (show 1 = 0 ∨ 1 = 1 from (by omega)), (show (0 ≤ ni3 ∧ ni3 ≤ 8) ∧ (0 ≤ lw3 ∧ lw3 ≤ 3) from (by omega)), (show lt3 = 0 ∨ lt3 = 1 from (by omega)), (show -2147483648 ≤ we3 ∧ we3 < 2147483648 from ⟨by omega, by omega⟩), (show 1 = 1 → (0 ≤ n3 ∧ n3 ≤ 6) ∧ SKZ f3 n3 from hfz)⟩ (hP.sub [0, 1, 2, 3, 4, 5, 6, 7] rfl) (hD.sub [0, 1, 2, 3, 4, 5, 6, 7] rfl rfl) dX6_readInto_124
          ·
            have c_11 := (zeq (x := iZ z_10) (y := iZ 0) rfl rfl ⟨by omega, by omega⟩ ⟨by omega, by omega⟩).mp c_11
            refine lv_aload_n hx hb dX6_readInto_42 rfl (lv_at hl 2 rfl) ?_
            refine va_get (D := D) (ci := 6) (v := .ref hr1) (C := RX6) (T := TX6) (N := 3) hx hb hts iX6 hown hK hP 0 rfl rfl 0 (by decide) (hts _ qf_X6_9) (fun _ h => h) rfl dX6_readInto_43 ?_
            refine va_get (D := D) (ci := 4) (v := .int (iZ ke3)) (C := RX4) (T := TX4) (N := 12) hx hb hts iX4 hown hK hP 1 rfl rfl 8 (by decide) (hts _ qf_X6_34) (fun _ h => h) rfl dX6_readInto_46 ?_
            rcases Classical.em (ke3 = 0) with c_12 | c_12
            ·
              refine lv_lookup (tgt := 84) (off := 35) hx hb dX6_readInto_49 (by decide) (by rw [iZ_ti ⟨by omega, by omega⟩, c_12]; decide) (by decide) ?_
              refine lv_aload_n hx hb dX6_readInto_84 rfl (lv_at hl 2 rfl) ?_
              refine CWV (As := []) (rest := []) (wc := [(hq, .inr (6, [.ref hr1, .ref hs, .int (iZ lt3)])), (hr1, .inr (4, [.ref tx, .ref kw, .int (iZ tp3), .int (iZ ln3), .int (iZ pl3), .int (iZ en3), .int (iZ ki3), .int (iZ va3), .int (iZ ke3), .long nm3, .int (iZ fk3), .int (iZ fp3)])), (tx, .inl (k 0, 900, .inl bf)), (kw, .inl (k 2, 25, .inr (.inl kwf))), (hs, .inr (5, [.ref hN, .ref hf, .ref hg, .int (iZ n3), .int (iZ ni3), .int (iZ lw3), .int (iZ we3)])), (hN, .inl (k 2, 6, .inr (.inl nf3))), (hf, .inl (k 1, 36, .inl f3)), (hg, .inl (k 1, 32, .inl g3))]) (wr := []) hx hb hml hown hts hKK hP hD hS hA (k_readRock l D k hq hr1 tx kw lt3 tp3 ln3 pl3 en3 ki3 va3 ke3 fk3 fp3 nm3 bf kwf hs hN hf hg n3 ni3 lw3 we3 nf3 f3 g3 (by first | with_reducible assumption | exact ⟨⟨by omega, by omega⟩, ⟨by omega, by omega⟩, ⟨by omega, by omega⟩, by omega, ⟨by omega, by omega⟩, ⟨by omega, by omega⟩, by omega, by omega⟩) ⟨by omega, by omega⟩ hz3 ⟨by omega, by omega⟩) ci_X6_readRock qm_X6_38 ⟨Nat.le_of_ble_eq_true rfl, Nat.le_of_ble_eq_true rfl⟩ ⟨Nat.le_of_ble_eq_true rfl, Nat.le_of_ble_eq_true rfl⟩ [0, 1, 2, 3, 4, 5, 6, 7] [] rfl rfl rfl rfl rfl (by decide) 0 rfl rfl rfl hl.1 rfl (Nat.le_of_ble_eq_true rfl) dX6_readInto_85 (fun u_13 H locs hφ hP hD hS => ?_)
              obtain ⟨I_14, L_15, F_16, G_17⟩ := u_13
              obtain ⟨p_19, p_20, p_21, p_22⟩ : ((0 ≤ (I_14 1) ∧ (I_14 1) ≤ 900) ∧ (0 ≤ (I_14 2) ∧ (I_14 2) ≤ 900) ∧ (0 ≤ (I_14 3) ∧ (I_14 3) ≤ (I_14 4)) ∧ ((I_14 4) ≤ (I_14 2)) ∧ (0 ≤ (I_14 5) ∧ (I_14 5) ≤ 4) ∧ (-2147483648 ≤ (I_14 6) ∧ (I_14 6) < 2147483648) ∧ (-1 ≤ (I_14 7) ∧ (I_14 7) ≤ 24)) ∧ ((I_14 1) = tp3) ∧ (-2147483648 ≤ (I_14 11) ∧ (I_14 11) < 2147483648) ∧ ((I_14 0) = 0 ∨ ((I_14 0) = 1 ∧ (0 ≤ (I_14 10) ∧ (I_14 10) ≤ 6) ∧ SKZ (F_16 0) (I_14 10))) := hφ
              refine W.eq (g2 := F0 m 88 ls [.int (iZ (I_14 0))]) rfl ?_
              rcases p_22 with qt_23 | ⟨qt_23, nt_23, ht_23⟩
              ·
                rw [qt_23]
                refine lv_istore_n (lv' := [(2, .int (iZ 0)), (3, .int (iZ i)), (0, .ref hq), (1, .ref hs)]) hx hb dX6_readInto_88 rfl hl (by decide) rfl (fun ls hl => ?_)
                refine lv_goto (tgt := 117) hx hb dX6_readInto_89 (by decide) ?_
                refine lv_iinc (v := iZ (i + 1)) (lv' := [(3, .int (iZ (i + 1))), (2, .int (iZ 0)), (0, .ref hq), (1, .ref hs)]) hx hb dX6_readInto_117 hl (k := 1) rfl (iZ_add i 1) (by decide) rfl (fun ls hl => ?_)
                refine lv_goto (tgt := 21) hx hb dX6_readInto_120 (by decide) ?_
                exact ih1  _ _ lt3 (I_14 10) ni3 lw3 (I_14 11) (I_14 1) (I_14 2) (I_14 3) (I_14 4) (I_14 5) (I_14 6) (I_14 7) (I_14 8) (I_14 9) (L_15 1) (G_17 0) (F_16 0) g3 _ _ _ (by omega) (by omega) (by omega) (by omega) ⟨by omega, by omega⟩ (by omega) (by omega) (by omega) ⟨by omega, by first | with_reducible assumption | exact ⟨⟨by omega, by omega⟩, ⟨by omega, by omega⟩, ⟨by omega, by omega⟩, by omega, ⟨by omega, by omega⟩, ⟨by omega, by omega⟩, by omega, by omega⟩⟩ (fun h => absurd (show (0 : Int) = 1 from h) (by decide)) (hP.sub [0, 1, 2, 3, 4, 5, 6, 7] rfl) (hD.sub [0, 1, 2, 3, 4, 5, 6, 7] rfl rfl) hS (lv_sub hl [0, 1, 2, 3] rfl)
              ·
                rw [qt_23]
                refine lv_istore_n (lv' := [(2, .int (iZ 1)), (3, .int (iZ i)), (0, .ref hq), (1, .ref hs)]) hx hb dX6_readInto_88 rfl hl (by decide) rfl (fun ls hl => ?_)
                refine lv_goto (tgt := 117) hx hb dX6_readInto_89 (by decide) ?_
                refine lv_iinc (v := iZ (i + 1)) (lv' := [(3, .int (iZ (i + 1))), (2, .int (iZ 1)), (0, .ref hq), (1, .ref hs)]) hx hb dX6_readInto_117 hl (k := 1) rfl (iZ_add i 1) (by decide) rfl (fun ls hl => ?_)
                refine lv_goto (tgt := 21) hx hb dX6_readInto_120 (by decide) ?_
                exact ih1  _ _ lt3 (I_14 10) ni3 lw3 (I_14 11) (I_14 1) (I_14 2) (I_14 3) (I_14 4) (I_14 5) (I_14 6) (I_14 7) (I_14 8) (I_14 9) (L_15 1) (G_17 0) (F_16 0) g3 _ _ _ (by omega) (by omega) (by omega) (by omega) ⟨by omega, by omega⟩ (by omega) (by omega) (by omega) ⟨by omega, by first | with_reducible assumption | exact ⟨⟨by omega, by omega⟩, ⟨by omega, by omega⟩, ⟨by omega, by omega⟩, by omega, ⟨by omega, by omega⟩, ⟨by omega, by omega⟩, by omega, by omega⟩⟩ (fun _ => ⟨by omega, ht_23⟩) (hP.sub [0, 1, 2, 3, 4, 5, 6, 7] rfl) (hD.sub [0, 1, 2, 3, 4, 5, 6, 7] rfl rfl) hS (lv_sub hl [0, 1, 2, 3] rfl)
            ·
              rcases Classical.em (ke3 = 8) with c_24 | c_24
              ·
                refine lv_lookup (tgt := 92) (off := 43) hx hb dX6_readInto_49 (by decide) (by rw [iZ_ti ⟨by omega, by omega⟩, c_24]; decide) (by decide) ?_
                refine lv_aload_n hx hb dX6_readInto_92 rfl (lv_at hl 2 rfl) ?_
                refine CWV (As := []) (rest := []) (wc := [(hq, .inr (6, [.ref hr1, .ref hs, .int (iZ lt3)])), (hr1, .inr (4, [.ref tx, .ref kw, .int (iZ tp3), .int (iZ ln3), .int (iZ pl3), .int (iZ en3), .int (iZ ki3), .int (iZ va3), .int (iZ ke3), .long nm3, .int (iZ fk3), .int (iZ fp3)])), (tx, .inl (k 0, 900, .inl bf)), (kw, .inl (k 2, 25, .inr (.inl kwf))), (hs, .inr (5, [.ref hN, .ref hf, .ref hg, .int (iZ n3), .int (iZ ni3), .int (iZ lw3), .int (iZ we3)])), (hN, .inl (k 2, 6, .inr (.inl nf3))), (hf, .inl (k 1, 36, .inl f3)), (hg, .inl (k 1, 32, .inl g3))]) (wr := []) hx hb hml hown hts hKK hP hD hS hA (k_readIce l D k hq hr1 tx kw lt3 tp3 ln3 pl3 en3 ki3 va3 ke3 fk3 fp3 nm3 bf kwf hs hN hf hg n3 ni3 lw3 we3 nf3 f3 g3 (by first | with_reducible assumption | exact ⟨⟨by omega, by omega⟩, ⟨by omega, by omega⟩, ⟨by omega, by omega⟩, by omega, ⟨by omega, by omega⟩, ⟨by omega, by omega⟩, by omega, by omega⟩) ⟨by omega, by omega⟩ ⟨by omega, by omega⟩) ci_X6_readIce qm_X6_41 ⟨Nat.le_of_ble_eq_true rfl, Nat.le_of_ble_eq_true rfl⟩ ⟨Nat.le_of_ble_eq_true rfl, Nat.le_of_ble_eq_true rfl⟩ [0, 1, 2, 3, 4, 5, 6, 7] [] rfl rfl rfl rfl rfl (by decide) 0 rfl rfl rfl hl.1 rfl (Nat.le_of_ble_eq_true rfl) dX6_readInto_93 (fun u_25 H locs hφ hP hD hS => ?_)
                obtain ⟨I_26, L_27, F_28, G_29⟩ := u_25
                obtain ⟨p_31, p_32, p_33⟩ : ((0 ≤ (I_26 1) ∧ (I_26 1) ≤ 900) ∧ (0 ≤ (I_26 2) ∧ (I_26 2) ≤ 900) ∧ (0 ≤ (I_26 3) ∧ (I_26 3) ≤ (I_26 4)) ∧ ((I_26 4) ≤ (I_26 2)) ∧ (0 ≤ (I_26 5) ∧ (I_26 5) ≤ 4) ∧ (-2147483648 ≤ (I_26 6) ∧ (I_26 6) < 2147483648) ∧ (-1 ≤ (I_26 7) ∧ (I_26 7) ≤ 24)) ∧ ((I_26 1) = tp3) ∧ (((I_26 0) = 0 ∨ (I_26 0) = 1) ∧ 0 ≤ (I_26 10) ∧ (I_26 10) ≤ 8) := hφ
                refine W.eq (g2 := F0 m 96 ls [.int (iZ (I_26 0))]) rfl ?_
                rcases (show ((I_26 0) = 0) ∨ ((I_26 0) = 1) from (by omega)) with s_34 | s_34
                ·
                  rw [s_34]
                  refine lv_istore_n (lv' := [(2, .int (iZ 0)), (3, .int (iZ i)), (0, .ref hq), (1, .ref hs)]) hx hb dX6_readInto_96 rfl hl (by decide) rfl (fun ls hl => ?_)
                  refine lv_goto (tgt := 117) hx hb dX6_readInto_97 (by decide) ?_
                  refine lv_iinc (v := iZ (i + 1)) (lv' := [(3, .int (iZ (i + 1))), (2, .int (iZ 0)), (0, .ref hq), (1, .ref hs)]) hx hb dX6_readInto_117 hl (k := 1) rfl (iZ_add i 1) (by decide) rfl (fun ls hl => ?_)
                  refine lv_goto (tgt := 21) hx hb dX6_readInto_120 (by decide) ?_
                  exact ih1  _ _ lt3 n3 (I_26 10) lw3 we3 (I_26 1) (I_26 2) (I_26 3) (I_26 4) (I_26 5) (I_26 6) (I_26 7) (I_26 8) (I_26 9) (L_27 1) nf3 f3 (F_28 0) _ _ _ (by omega) (by omega) (by omega) (by omega) ⟨by omega, by omega⟩ (by omega) (by omega) (by omega) ⟨by omega, by first | with_reducible assumption | exact ⟨⟨by omega, by omega⟩, ⟨by omega, by omega⟩, ⟨by omega, by omega⟩, by omega, ⟨by omega, by omega⟩, ⟨by omega, by omega⟩, by omega, by omega⟩⟩ (fun h => absurd (show (0 : Int) = 1 from h) (by decide)) (hP.sub [0, 1, 2, 3, 4, 5, 6, 7] rfl) (hD.sub [0, 1, 2, 3, 4, 5, 6, 7] rfl rfl) hS (lv_sub hl [0, 1, 2, 3] rfl)
                ·
                  rw [s_34]
                  refine lv_istore_n (lv' := [(2, .int (iZ 1)), (3, .int (iZ i)), (0, .ref hq), (1, .ref hs)]) hx hb dX6_readInto_96 rfl hl (by decide) rfl (fun ls hl => ?_)
                  refine lv_goto (tgt := 117) hx hb dX6_readInto_97 (by decide) ?_
                  refine lv_iinc (v := iZ (i + 1)) (lv' := [(3, .int (iZ (i + 1))), (2, .int (iZ 1)), (0, .ref hq), (1, .ref hs)]) hx hb dX6_readInto_117 hl (k := 1) rfl (iZ_add i 1) (by decide) rfl (fun ls hl => ?_)
                  refine lv_goto (tgt := 21) hx hb dX6_readInto_120 (by decide) ?_
                  exact ih1  _ _ lt3 n3 (I_26 10) lw3 we3 (I_26 1) (I_26 2) (I_26 3) (I_26 4) (I_26 5) (I_26 6) (I_26 7) (I_26 8) (I_26 9) (L_27 1) nf3 f3 (F_28 0) _ _ _ (by omega) (by omega) (by omega) (by omega) ⟨by omega, by omega⟩ (by omega) (by omega) (by omega) ⟨by omega, by first | with_reducible assumption | exact ⟨⟨by omega, by omega⟩, ⟨by omega, by omega⟩, ⟨by omega, by omega⟩, by omega, ⟨by omega, by omega⟩, ⟨by omega, by omega⟩, by omega, by omega⟩⟩ (fun _ => ⟨by omega, hz3⟩) (hP.sub [0, 1, 2, 3, 4, 5, 6, 7] rfl) (hD.sub [0, 1, 2, 3, 4, 5, 6, 7] rfl rfl) hS (lv_sub hl [0, 1, 2, 3] rfl)
              ·
                rcases Classical.em (ke3 = 11) with c_35 | c_35
                ·
                  refine lv_lookup (tgt := 100) (off := 51) hx hb dX6_readInto_49 (by decide) (by rw [iZ_ti ⟨by omega, by omega⟩, c_35]; decide) (by decide) ?_
                  refine lv_aload_n hx hb dX6_readInto_100 rfl (lv_at hl 2 rfl) ?_
                  refine CWV (As := []) (rest := []) (wc := [(hq, .inr (6, [.ref hr1, .ref hs, .int (iZ lt3)])), (hr1, .inr (4, [.ref tx, .ref kw, .int (iZ tp3), .int (iZ ln3), .int (iZ pl3), .int (iZ en3), .int (iZ ki3), .int (iZ va3), .int (iZ ke3), .long nm3, .int (iZ fk3), .int (iZ fp3)])), (tx, .inl (k 0, 900, .inl bf)), (kw, .inl (k 2, 25, .inr (.inl kwf))), (hs, .inr (5, [.ref hN, .ref hf, .ref hg, .int (iZ n3), .int (iZ ni3), .int (iZ lw3), .int (iZ we3)])), (hN, .inl (k 2, 6, .inr (.inl nf3))), (hf, .inl (k 1, 36, .inl f3)), (hg, .inl (k 1, 32, .inl g3))]) (wr := []) hx hb hml hown hts hKK hP hD hS hA (k_readLaw l D k hq hr1 tx kw lt3 tp3 ln3 pl3 en3 ki3 va3 ke3 fk3 fp3 nm3 bf kwf hs hN hf hg n3 ni3 lw3 we3 nf3 f3 g3 (by first | with_reducible assumption | exact ⟨⟨by omega, by omega⟩, ⟨by omega, by omega⟩, ⟨by omega, by omega⟩, by omega, ⟨by omega, by omega⟩, ⟨by omega, by omega⟩, by omega, by omega⟩) (by omega) ⟨by omega, by omega⟩) ci_X6_readLaw qm_X6_44 ⟨Nat.le_of_ble_eq_true rfl, Nat.le_of_ble_eq_true rfl⟩ ⟨Nat.le_of_ble_eq_true rfl, Nat.le_of_ble_eq_true rfl⟩ [0, 1, 2, 3, 4, 5, 6, 7] [] rfl rfl rfl rfl rfl (by decide) 0 rfl rfl rfl hl.1 rfl (Nat.le_of_ble_eq_true rfl) dX6_readInto_101 (fun u_36 H locs hφ hP hD hS => ?_)
                  obtain ⟨I_37, L_38, F_39, G_40⟩ := u_36
                  obtain ⟨p_42, p_43, p_44⟩ : ((0 ≤ (I_37 1) ∧ (I_37 1) ≤ 900) ∧ (0 ≤ (I_37 2) ∧ (I_37 2) ≤ 900) ∧ (0 ≤ (I_37 3) ∧ (I_37 3) ≤ (I_37 4)) ∧ ((I_37 4) ≤ (I_37 2)) ∧ (0 ≤ (I_37 5) ∧ (I_37 5) ≤ 4) ∧ (-2147483648 ≤ (I_37 6) ∧ (I_37 6) < 2147483648) ∧ (-1 ≤ (I_37 7) ∧ (I_37 7) ≤ 24)) ∧ ((I_37 1) = tp3) ∧ (((I_37 0) = 0 ∨ (I_37 0) = 1) ∧ ((I_37 11) = 0 ∨ (I_37 11) = 1) ∧ 0 ≤ (I_37 10) ∧ (I_37 10) ≤ 3) := hφ
                  refine W.eq (g2 := F0 m 104 ls [.int (iZ (I_37 0))]) rfl ?_
                  rcases (show ((I_37 0) = 0) ∨ ((I_37 0) = 1) from (by omega)) with s_45 | s_45
                  ·
                    rw [s_45]
                    refine lv_istore_n (lv' := [(2, .int (iZ 0)), (3, .int (iZ i)), (0, .ref hq), (1, .ref hs)]) hx hb dX6_readInto_104 rfl hl (by decide) rfl (fun ls hl => ?_)
                    refine lv_goto (tgt := 117) hx hb dX6_readInto_105 (by decide) ?_
                    refine lv_iinc (v := iZ (i + 1)) (lv' := [(3, .int (iZ (i + 1))), (2, .int (iZ 0)), (0, .ref hq), (1, .ref hs)]) hx hb dX6_readInto_117 hl (k := 1) rfl (iZ_add i 1) (by decide) rfl (fun ls hl => ?_)
                    refine lv_goto (tgt := 21) hx hb dX6_readInto_120 (by decide) ?_
                    exact ih1  _ _ (I_37 11) n3 ni3 (I_37 10) we3 (I_37 1) (I_37 2) (I_37 3) (I_37 4) (I_37 5) (I_37 6) (I_37 7) (I_37 8) (I_37 9) (L_38 1) nf3 f3 g3 _ _ _ (by omega) (by omega) (by omega) (by omega) ⟨by omega, by omega⟩ (by omega) (by omega) (by omega) ⟨by omega, by first | with_reducible assumption | exact ⟨⟨by omega, by omega⟩, ⟨by omega, by omega⟩, ⟨by omega, by omega⟩, by omega, ⟨by omega, by omega⟩, ⟨by omega, by omega⟩, by omega, by omega⟩⟩ (fun h => absurd (show (0 : Int) = 1 from h) (by decide)) (hP.sub [0, 1, 2, 3, 4, 5, 6, 7] rfl) (hD.sub [0, 1, 2, 3, 4, 5, 6, 7] rfl rfl) hS (lv_sub hl [0, 1, 2, 3] rfl)
                  ·
                    rw [s_45]
                    refine lv_istore_n (lv' := [(2, .int (iZ 1)), (3, .int (iZ i)), (0, .ref hq), (1, .ref hs)]) hx hb dX6_readInto_104 rfl hl (by decide) rfl (fun ls hl => ?_)
                    refine lv_goto (tgt := 117) hx hb dX6_readInto_105 (by decide) ?_
                    refine lv_iinc (v := iZ (i + 1)) (lv' := [(3, .int (iZ (i + 1))), (2, .int (iZ 1)), (0, .ref hq), (1, .ref hs)]) hx hb dX6_readInto_117 hl (k := 1) rfl (iZ_add i 1) (by decide) rfl (fun ls hl => ?_)
                    refine lv_goto (tgt := 21) hx hb dX6_readInto_120 (by decide) ?_
                    exact ih1  _ _ (I_37 11) n3 ni3 (I_37 10) we3 (I_37 1) (I_37 2) (I_37 3) (I_37 4) (I_37 5) (I_37 6) (I_37 7) (I_37 8) (I_37 9) (L_38 1) nf3 f3 g3 _ _ _ (by omega) (by omega) (by omega) (by omega) ⟨by omega, by omega⟩ (by omega) (by omega) (by omega) ⟨by omega, by first | with_reducible assumption | exact ⟨⟨by omega, by omega⟩, ⟨by omega, by omega⟩, ⟨by omega, by omega⟩, by omega, ⟨by omega, by omega⟩, ⟨by omega, by omega⟩, by omega, by omega⟩⟩ (fun _ => ⟨by omega, hz3⟩) (hP.sub [0, 1, 2, 3, 4, 5, 6, 7] rfl) (hD.sub [0, 1, 2, 3, 4, 5, 6, 7] rfl rfl) hS (lv_sub hl [0, 1, 2, 3] rfl)
                ·
                  refine lv_lookup (tgt := 108) (off := 59) hx hb dX6_readInto_49 (by decide) (by rw [iZ_ti ⟨by omega, by omega⟩]; simp [Op.lookupswitch.offset, show ¬ (ke3 : Int) = 0 from c_12, show ¬ (0 : Int) = ke3 from fun h => c_12 h.symm, show ¬ (ke3 : Int) = 8 from c_24, show ¬ (8 : Int) = ke3 from fun h => c_24 h.symm, show ¬ (ke3 : Int) = 11 from c_35, show ¬ (11 : Int) = ke3 from fun h => c_35 h.symm]) (by decide) ?_
                  refine lv_aload_n hx hb dX6_readInto_108 rfl (lv_at hl 2 rfl) ?_
                  refine va_get (D := D) (ci := 6) (v := .ref hr1) (C := RX6) (T := TX6) (N := 3) hx hb hts iX6 hown hK hP 0 rfl rfl 0 (by decide) (hts _ qf_X6_9) (fun _ h => h) rfl dX6_readInto_109 ?_
                  refine lv_iconst (v := iZ 2) hx hb dX6_readInto_112 (by decide) ?_
                  refine CWV (As := [.int (iZ 2)]) (rest := []) (wc := [(hr1, .inr (4, [.ref tx, .ref kw, .int (iZ tp3), .int (iZ ln3), .int (iZ pl3), .int (iZ en3), .int (iZ ki3), .int (iZ va3), .int (iZ ke3), .long nm3, .int (iZ fk3), .int (iZ fp3)])), (tx, .inl (k 0, 900, .inl bf)), (kw, .inl (k 2, 25, .inr (.inl kwf)))]) (wr := [(hq, .inr (6, [.ref hr1, .ref hs, .int (iZ lt3)])), (hs, .inr (5, [.ref hN, .ref hf, .ref hg, .int (iZ n3), .int (iZ ni3), .int (iZ lw3), .int (iZ we3)])), (hN, .inl (k 2, 6, .inr (.inl nf3))), (hf, .inl (k 1, 36, .inl f3)), (hg, .inl (k 1, 32, .inl g3))]) hx hb hml hown hts hKK hP hD hS hA (k_fail l D k hr1 tx kw bf kwf tp3 ln3 pl3 en3 ki3 va3 ke3 fk3 fp3 nm3 (show RDI _ from (show (0 ≤ tp3 ∧ tp3 ≤ 900) ∧ (0 ≤ ln3 ∧ ln3 ≤ 900) ∧ (0 ≤ pl3 ∧ pl3 ≤ en3) ∧ (en3 ≤ ln3) ∧ (0 ≤ ki3 ∧ ki3 ≤ 4) ∧ (-2147483648 ≤ va3 ∧ va3 < 2147483648) ∧ (-1 ≤ ke3 ∧ ke3 ≤ 24) from ⟨⟨by omega, by omega⟩, ⟨by omega, by omega⟩, ⟨by omega, by omega⟩, by omega, ⟨by omega, by omega⟩, ⟨by omega, by omega⟩, by omega, by omega⟩)) 2 ) ci_X4_fail qm_X6_47 ⟨Nat.le_of_ble_eq_true rfl, Nat.le_of_ble_eq_true rfl⟩ ⟨Nat.le_of_ble_eq_true rfl, Nat.le_of_ble_eq_true rfl⟩ [1, 2, 3] [0, 4, 5, 6, 7] rfl rfl rfl rfl rfl (by decide) 0 rfl rfl rfl hl.1 rfl (Nat.le_of_ble_eq_true rfl) dX6_readInto_113 (fun u_46 H locs hφ hP hD hS => ?_)
                  obtain ⟨I_47, nm_48⟩ := u_46
                  obtain ⟨ah_49, b1h_49, b2h_49, b3h_49, b4h_49, b5h_49, b6h_49, b7h_49⟩ := hφ
                  dsimp only at ah_49 b1h_49 b2h_49 b3h_49 b4h_49 b5h_49 b6h_49 b7h_49
                  refine W.eq (g2 := F0 m 116 ls [.int (iZ (I_47 0))]) rfl ?_
                  have s_50 : (I_47 0) = 0 := (by omega)
                  rw [s_50]
                  refine lv_istore_n (lv' := [(2, .int (iZ 0)), (3, .int (iZ i)), (0, .ref hq), (1, .ref hs)]) hx hb dX6_readInto_116 rfl hl (by decide) rfl (fun ls hl => ?_)
                  refine lv_iinc (v := iZ (i + 1)) (lv' := [(3, .int (iZ (i + 1))), (2, .int (iZ 0)), (0, .ref hq), (1, .ref hs)]) hx hb dX6_readInto_117 hl (k := 1) rfl (iZ_add i 1) (by decide) rfl (fun ls hl => ?_)
                  refine lv_goto (tgt := 21) hx hb dX6_readInto_120 (by decide) ?_
                  exact ih1  _ _ lt3 n3 ni3 lw3 we3 (I_47 1) (I_47 2) (I_47 3) (I_47 4) (I_47 5) (I_47 6) (I_47 7) (I_47 8) (I_47 9) nm_48 nf3 f3 g3 _ _ _ (by omega) (by omega) (by omega) (by omega) ⟨by omega, by omega⟩ (by omega) (by omega) (by omega) ⟨by omega, by first | with_reducible assumption | exact ⟨⟨by omega, by omega⟩, ⟨by omega, by omega⟩, ⟨by omega, by omega⟩, by omega, ⟨by omega, by omega⟩, ⟨by omega, by omega⟩, by omega, by omega⟩⟩ (fun h => absurd (show (0 : Int) = 1 from h) (by decide)) (hP.sub [0, 5, 6, 7, 1, 2, 3, 4] rfl) (hD.sub [0, 5, 6, 7, 1, 2, 3, 4] rfl rfl) hS (lv_sub hl [0, 1, 2, 3] rfl)
  exact HL1 903 _ _ 0 0 0 0 0 tp ln pl en ki va ke fk fp nm nf (F_4 0) g _ _ _ (by omega) (by omega) (by omega) (by omega) ⟨by omega, by omega⟩ (by omega) (by omega) (by omega) ⟨by omega, by first | with_reducible assumption | exact ⟨⟨by omega, by omega⟩, ⟨by omega, by omega⟩, ⟨by omega, by omega⟩, by omega, ⟨by omega, by omega⟩, ⟨by omega, by omega⟩, by omega, by omega⟩⟩ (fun _ => ⟨by omega, ⟨fun r h1 h2 => absurd h1 (by omega), fun e h1 h2 => p_7 e (by omega) h2⟩⟩) (hP.sub [0, 1, 2, 3, 4, 5, 6, 7] rfl) (hD.sub [0, 1, 2, 3, 4, 5, 6, 7] rfl rfl) hS (lv_sub hl [0, 1, 2, 3] rfl)
