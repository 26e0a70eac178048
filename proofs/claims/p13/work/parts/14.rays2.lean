set_option maxHeartbeats 4000000 in
set_option maxRecDepth 100000 in
theorem k_echoOf (l : Launch) (D : va_G) (k : Nat → ClassId) (h hs : Nat) (r0 : Ry) {P0 : RP_} (hRT : (RT k) P0 r0) (fs : List Value) (hf hg : Nat) (f1 : fs[1]? = some (.ref hf)) (f2 : fs[2]? = some (.ref hg)) (f g : Nat → Int32) (n : Int) (hn : n ≤ 6) (hx0 : FXI f n) (ni : Int) (f4 : fs[4]? = some (.int (iZ ni))) (hni : 0 ≤ ni ∧ ni ≤ 8) (hQ0 : P0 = RX f g n ni) (a w b : Int) (ha0 : 0 ≤ a ∧ a < n) (hb0 : 0 ≤ b ∧ b < n) (hw : -2147483648 ≤ w ∧ w < 2147483648) : XD (σ := (Int × Ry)) l yX3_echoOf cX3_echoOf 4 (some .int) 2 r0 D k [.ref h, .int (iZ a), .int (iZ w), .int (iZ b)] [(h, .inr (3, [.ref hs, .long r0.op, r0.vA, r0.vL])), (hs, .inr (5, fs)), (hf, .inl (k 1, 36, .inl f)), (hg, .inl (k 1, 32, .inl g))] (fun u => u.2) (fun u => some (.int (iZ u.1))) (fun u => ((-1 ≤ u.1 ∧ u.1 ≤ 420) ∧ u.1 = arN f g ni b (arN f g ni a w b) a ∧ (∀ d : Int, 0 ≤ d → d < 36 → OB r0.op d → OB u.2.op d)) ∧ RT k (RX f g n ni) u.2) (fun u => [(h, .inr (3, [.ref hs, .long u.2.op, u.2.vA, u.2.vL])), (hs, .inr (5, fs)), (hf, .inl (k 1, 36, .inl f)), (hg, .inl (k 1, 32, .inl g))]) := by
  refine MX (by decide) (Nat.le_of_ble_eq_true rfl) (fun p e s m below meth c ls A hx hb hml hr hlocks hin hts hown hKK hP hD hS hA hl => ?_)
  have hK := hKK.1
  have hl : lv_has ls 4 [(0, .ref h), (1, .int (iZ a)), (2, .int (iZ w)), (3, .int (iZ b))] := hl
  subst hQ0
  refine lv_aload_n hx hb dX3_echoOf_0 rfl (lv_at hl 0 rfl) ?_
  refine lv_iload_n hx hb dX3_echoOf_1 rfl (lv_at hl 3 rfl) ?_
  refine lv_aload_n hx hb dX3_echoOf_2 rfl (lv_at hl 0 rfl) ?_
  refine lv_iload_n hx hb dX3_echoOf_3 rfl (lv_at hl 1 rfl) ?_
  refine lv_iload_n hx hb dX3_echoOf_4 rfl (lv_at hl 2 rfl) ?_
  refine lv_iload_n hx hb dX3_echoOf_5 rfl (lv_at hl 3 rfl) ?_
  refine CXV (r := r0) (b0 := r0.b) (As := [.int (iZ a), .int (iZ w), .int (iZ b)]) (rest := [.int (iZ b), .ref h]) (ws := [(h, .inr (3, [.ref hs, .long r0.op, r0.vA, r0.vL])), (hs, .inr (5, fs)), (hf, .inl (k 1, 36, .inl f)), (hg, .inl (k 1, 32, .inl g))]) (wc := _) (wr := []) hx hb hml hown hts hKK hP hD hS hA (fun h => h) (k_arrival l D k h hs r0 hRT fs hf hg f1 f2 f g n hn hx0 ni f4 hni rfl a w b ⟨by omega, by omega⟩ ⟨by omega, by omega⟩ ⟨by omega, by omega⟩) ci_X3_arrival qm_X3_48 ⟨Nat.le_of_ble_eq_true rfl, Nat.le_of_ble_eq_true rfl⟩ ⟨rfl, rfl⟩ [0, 1, 2, 3] [] rfl rfl rfl rfl rfl (dj rfl) 0 rfl rfl rfl hl.1 rfl (Nat.le_of_ble_eq_true rfl) dX3_echoOf_6 (fun u_1 H locs hφ hP hD hS hb1 => ?_)
  obtain ⟨z_3, r_4⟩ := u_1
  obtain ⟨hz_3, rtr_4⟩ := hφ
  dsimp only at hz_3
  obtain ⟨hz_3, vz_3, mor_4⟩ := hz_3
  have rtr_4 : RT k (RX f g n ni) r_4 := rtr_4
  have hbh_2 : r_4.b = true → r0.b = true := fun h => (fun h => h) (hb1 h)
  refine W.ceq (cells' := cz r0.b r_4.b) (slots' := sz r0.b r_4.b) rfl rfl ?_
  refine W.eq (g2 := F0 m 9 ls [.int (iZ z_3), .int (iZ b), .ref h]) rfl ?_
  refine lv_iload_n hx hb dX3_echoOf_9 rfl (lv_at hl 1 rfl) ?_
  refine CXV (r := r_4) (b0 := r0.b) (As := [.int (iZ b), .int (iZ z_3), .int (iZ a)]) (rest := []) (ws := [(h, .inr (3, [.ref hs, .long r_4.op, r_4.vA, r_4.vL])), (hs, .inr (5, fs)), (hf, .inl (k 1, 36, .inl f)), (hg, .inl (k 1, 32, .inl g))]) (wc := _) (wr := []) hx hb hml hown hts hKK hP hD hS hA hbh_2 (k_arrival l D k h hs r_4 rtr_4 fs hf hg f1 f2 f g n hn hx0 ni f4 hni rfl b z_3 a ⟨by omega, by omega⟩ ⟨by omega, by omega⟩ ⟨by omega, by omega⟩) ci_X3_arrival qm_X3_48 ⟨Nat.le_of_ble_eq_true rfl, Nat.le_of_ble_eq_true rfl⟩ ⟨rfl, rfl⟩ [0, 1, 2, 3] [] rfl rfl rfl rfl rfl (dj rfl) 0 rfl rfl rfl hl.1 rfl (Nat.le_of_ble_eq_true rfl) dX3_echoOf_10 (fun u_5 H locs hφ hP hD hS hb1 => ?_)
  obtain ⟨z_7, r_8⟩ := u_5
  obtain ⟨hz_7, rtr_8⟩ := hφ
  dsimp only at hz_7
  obtain ⟨hz_7, vz_7, mor_8⟩ := hz_7
  have rtr_8 : RT k (RX f g n ni) r_8 := rtr_8
  have hbh_6 : r_8.b = true → r0.b = true := fun h => hbh_2 (hb1 h)
  refine W.ceq (cells' := cz r0.b r_8.b) (slots' := sz r0.b r_8.b) rfl rfl ?_
  refine W.eq (g2 := F0 m 13 ls [.int (iZ z_7)]) rfl ?_
  exact EXi hx hb hr hlocks hbh_6 hS (z_7, r_8) rfl rfl ⟨⟨⟨by omega, by omega⟩, by rw [vz_7, vz_3], fun d h1 h2 h3 => mor_8 d h1 h2 (mor_4 d h1 h2 h3)⟩, rtr_8⟩ (va_P.subT (pre := [(h, .inr (3, [.ref hs, .long r_8.op, r_8.vA, r_8.vL])), (hs, .inr (5, fs)), (hf, .inl (k 1, 36, .inl f)), (hg, .inl (k 1, 32, .inl g))]) (pre' := [(h, .inr (3, [.ref hs, .long r_8.op, r_8.vA, r_8.vL])), (hs, .inr (5, fs)), (hf, .inl (k 1, 36, .inl f)), (hg, .inl (k 1, 32, .inl g))]) (tl := r_8.tl) hP [0, 1, 2, 3] rfl) (va_D.subT (pre := [(h, .inr (3, [.ref hs, .long r_8.op, r_8.vA, r_8.vL])), (hs, .inr (5, fs)), (hf, .inl (k 1, 36, .inl f)), (hg, .inl (k 1, 32, .inl g))]) (pre' := [(h, .inr (3, [.ref hs, .long r_8.op, r_8.vA, r_8.vL])), (hs, .inr (5, fs)), (hf, .inl (k 1, 36, .inl f)), (hg, .inl (k 1, 32, .inl g))]) (tl := r_8.tl) hD [0, 1, 2, 3] rfl rfl) dX3_echoOf_13
