set_option maxHeartbeats 4000000 in
set_option maxRecDepth 100000 in
theorem m_comes (l : Launch) (D : va_G) (k : Nat → ClassId) (fs : List Value) (hm : Nat) (Ma : Nat) (Af : Nat → Int32) (x : Int) (w : Int) (y : Int) (sl : Int) (f0 : fs[0]? = some (.ref Ma)) (hM : M0 Af) (h9x : 0 ≤ x ∧ x < gz Af 0) (h9w : 0 ≤ w ∧ w ≤ 700) (h9y : 0 ≤ y ∧ y < gz Af 0) (h9sl : sl = 1 ∨ sl = 10) : RP l yX12_comes cX12_comes 6 (some .int) 3 D k [.ref hm, .int (iZ x), .int (iZ w), .int (iZ y), .int (iZ sl)] [(hm, .inr (12, fs)), (Ma, .inl (k 1, 5340, .inl Af))] (fun z => z = cmF (sh Af 10) x w y sl ∧ w ≤ z ∧ z ≤ w + 20 * sl) := by
  refine MRP (by decide) (Nat.le_of_ble_eq_true rfl) (fun p e s m below meth c ls hx hb hml hr hlocks hts hown hKK hP hl => ?_)
  have hK := hKK.1
  have hl : lv_has ls 6 [(0, .ref hm), (1, .int (iZ x)), (2, .int (iZ w)), (3, .int (iZ y)), (4, .int (iZ sl))] := hl
  obtain ⟨m0, m1, m3, m4, m5, mF, mO, mS⟩ := id hM
  rcases h9sl with rfl | rfl
  ·
    refine lv_iload_n hx hb dX12_comes_0 rfl (lv_at hl 2 rfl) ?_
    refine lv_istore (lv' := [(5, .int (iZ w)), (0, .ref hm), (1, .int (iZ x)), (2, .int (iZ w)), (3, .int (iZ y)), (4, .int (iZ 1))]) hx hb dX12_comes_1 hl (bl rfl) rfl (fun ls hl => ?_)
    have HL1 : ∀ (fu : Nat) (i : Int) (ls : Array Slot), (w + 21 - i) < (fu : Int) → w ≤ i → i ≤ w + 20 → (∀ t : Int, w ≤ t → t < i → ¬ 1 * lt (sh Af 10) x w y t ≤ t - w) → lv_has ls 6 [(5, .int (iZ i)), (0, .ref hm), (1, .int (iZ x)), (2, .int (iZ w)), (3, .int (iZ y)), (4, .int (iZ 1))] → W p l e (rj 3 0 0) s m [.ref hm, .int (iZ x), .int (iZ w), .int (iZ y), .int (iZ 1)].toArray below meth c s.heap [] 0 0 (MQ below (QcP (fun z => z = cmF (sh Af 10) x w y 1 ∧ w ≤ z ∧ z ≤ w + 20 * 1)) [.ref hm, .int (iZ x), .int (iZ w), .int (iZ y), .int (iZ 1)].toArray s 0 0 (fun _ => False)) (F0 m 3 ls []) := by
      intro fu
      induction fu with
      | zero => intro i ls hμ1 hi1 hi2 hi3 hl; exact absurd hμ1 (by omega)
      | succ fu ih1 =>
        intro i ls hμ1 hi1 hi2 hi3 hl
        refine lv_iload hx hb dX12_comes_3 (lv_at hl 5 rfl) ?_
        refine lv_aload_n hx hb dX12_comes_5 rfl (lv_at hl 1 rfl) ?_
        refine lv_iload_n hx hb dX12_comes_6 rfl (lv_at hl 2 rfl) ?_
        refine lv_iload_n hx hb dX12_comes_7 rfl (lv_at hl 3 rfl) ?_
        refine lv_iload_n hx hb dX12_comes_8 rfl (lv_at hl 4 rfl) ?_
        refine lv_iload hx hb dX12_comes_9 (lv_at hl 0 rfl) ?_
        refine CRV (As := [.int (iZ x), .int (iZ w), .int (iZ y), .int (iZ i)]) (rest := [.int (iZ 1)]) hx hb hml hown hts hKK hP (m_light l D k fs hm Ma Af x w y i f0 hM ⟨by omega, by omega⟩ ⟨by omega, by omega⟩ ⟨by omega, by omega⟩ ⟨by omega, by omega⟩) ci_X12_lightOf qm_X12_261 ⟨Nat.le_of_ble_eq_true rfl, Nat.le_of_ble_eq_true rfl⟩ ⟨Nat.le_of_ble_eq_true rfl, Nat.le_of_ble_eq_true rfl⟩ 0 rfl rfl rfl hl.1 rfl (Nat.le_of_ble_eq_true rfl) dX12_comes_11 ?_
        have hl_h_1 := lt_rg (f := (sh Af 10)) (a := x) (w := w) (b := y) (t := i) hM.2.2.2.2.2.1 ⟨by omega, by omega⟩ ⟨by omega, by omega⟩
        refine lv_imul hx hb dX12_comes_14 ?_
        refine lv_topi (fun x_2 ex_2 => ?_)
        obtain rfl : x_2 = iZ (1 * (lt (sh Af 10) x w y i)) := ex_2.trans (iZ_mul 1 (lt (sh Af 10) x w y i))
        refine lv_iload hx hb dX12_comes_15 (lv_at hl 0 rfl) ?_
        refine lv_iload_n hx hb dX12_comes_17 rfl (lv_at hl 3 rfl) ?_
        refine lv_isub hx hb dX12_comes_18 ?_
        refine lv_topi (fun x_3 ex_3 => ?_)
        obtain rfl : x_3 = iZ (i - w) := ex_3.trans (iZ_sub i w)
        refine lv_icmp_le (tgt := 28) hx hb dX12_comes_19 rfl (fun c_4 => ?_) (fun c_4 => ?_)
        ·
          have c_4 := (zle (x := iZ (1 * (lt (sh Af 10) x w y i))) (y := iZ (i - w)) rfl rfl ⟨by omega, by omega⟩ ⟨by omega, by omega⟩).mp c_4
          refine lv_iload hx hb dX12_comes_28 (lv_at hl 0 rfl) ?_
          exact EPi hx hb hr hlocks ⟨cmF_eq ⟨hi1, by omega, hi3⟩, by omega, by omega⟩ dX12_comes_30
        ·
          have c_4 := mt (zle (x := iZ (1 * (lt (sh Af 10) x w y i))) (y := iZ (i - w)) rfl rfl ⟨by omega, by omega⟩ ⟨by omega, by omega⟩).mpr c_4
          refine lv_iinc (v := iZ (i + 1)) (lv' := [(5, .int (iZ (i + 1))), (0, .ref hm), (1, .int (iZ x)), (2, .int (iZ w)), (3, .int (iZ y)), (4, .int (iZ 1))]) hx hb dX12_comes_22 hl (k := 0) rfl (iZ_add i 1) (by decide) rfl (fun ls hl => ?_)
          refine lv_goto (tgt := 3) hx hb dX12_comes_25 rfl ?_
          exact ih1  (i + 1) _ (by omega) (by omega) (by omega) (by intro t h1 h2; rcases Int.lt_or_eq_of_le (show t ≤ i by omega) with h3 | h3; exact hi3 t h1 h3; rw [h3]; omega) (lv_sub hl [0, 1, 2, 3, 4, 5] rfl)
    exact HL1 22 w _ (by omega) (by omega) (by omega) (fun t h1 h2 => absurd h1 (by omega)) (lv_sub hl [0, 1, 2, 3, 4, 5] rfl)
  ·
    refine lv_iload_n hx hb dX12_comes_0 rfl (lv_at hl 2 rfl) ?_
    refine lv_istore (lv' := [(5, .int (iZ w)), (0, .ref hm), (1, .int (iZ x)), (2, .int (iZ w)), (3, .int (iZ y)), (4, .int (iZ 10))]) hx hb dX12_comes_1 hl (bl rfl) rfl (fun ls hl => ?_)
    have HL1 : ∀ (fu : Nat) (i : Int) (ls : Array Slot), (w + 201 - i) < (fu : Int) → w ≤ i → i ≤ w + 200 → (∀ t : Int, w ≤ t → t < i → ¬ 10 * lt (sh Af 10) x w y t ≤ t - w) → lv_has ls 6 [(5, .int (iZ i)), (0, .ref hm), (1, .int (iZ x)), (2, .int (iZ w)), (3, .int (iZ y)), (4, .int (iZ 10))] → W p l e (rj 3 0 0) s m [.ref hm, .int (iZ x), .int (iZ w), .int (iZ y), .int (iZ 10)].toArray below meth c s.heap [] 0 0 (MQ below (QcP (fun z => z = cmF (sh Af 10) x w y 10 ∧ w ≤ z ∧ z ≤ w + 20 * 10)) [.ref hm, .int (iZ x), .int (iZ w), .int (iZ y), .int (iZ 10)].toArray s 0 0 (fun _ => False)) (F0 m 3 ls []) := by
      intro fu
      induction fu with
      | zero => intro i ls hμ1 hi1 hi2 hi3 hl; exact absurd hμ1 (by omega)
      | succ fu ih1 =>
        intro i ls hμ1 hi1 hi2 hi3 hl
        refine lv_iload hx hb dX12_comes_3 (lv_at hl 5 rfl) ?_
        refine lv_aload_n hx hb dX12_comes_5 rfl (lv_at hl 1 rfl) ?_
        refine lv_iload_n hx hb dX12_comes_6 rfl (lv_at hl 2 rfl) ?_
        refine lv_iload_n hx hb dX12_comes_7 rfl (lv_at hl 3 rfl) ?_
        refine lv_iload_n hx hb dX12_comes_8 rfl (lv_at hl 4 rfl) ?_
        refine lv_iload hx hb dX12_comes_9 (lv_at hl 0 rfl) ?_
        refine CRV (As := [.int (iZ x), .int (iZ w), .int (iZ y), .int (iZ i)]) (rest := [.int (iZ 10)]) hx hb hml hown hts hKK hP (m_light l D k fs hm Ma Af x w y i f0 hM ⟨by omega, by omega⟩ ⟨by omega, by omega⟩ ⟨by omega, by omega⟩ ⟨by omega, by omega⟩) ci_X12_lightOf qm_X12_261 ⟨Nat.le_of_ble_eq_true rfl, Nat.le_of_ble_eq_true rfl⟩ ⟨Nat.le_of_ble_eq_true rfl, Nat.le_of_ble_eq_true rfl⟩ 0 rfl rfl rfl hl.1 rfl (Nat.le_of_ble_eq_true rfl) dX12_comes_11 ?_
        have hl_h_5 := lt_rg (f := (sh Af 10)) (a := x) (w := w) (b := y) (t := i) hM.2.2.2.2.2.1 ⟨by omega, by omega⟩ ⟨by omega, by omega⟩
        refine lv_imul hx hb dX12_comes_14 ?_
        refine lv_topi (fun x_6 ex_6 => ?_)
        obtain rfl : x_6 = iZ (10 * (lt (sh Af 10) x w y i)) := ex_6.trans (iZ_mul 10 (lt (sh Af 10) x w y i))
        refine lv_iload hx hb dX12_comes_15 (lv_at hl 0 rfl) ?_
        refine lv_iload_n hx hb dX12_comes_17 rfl (lv_at hl 3 rfl) ?_
        refine lv_isub hx hb dX12_comes_18 ?_
        refine lv_topi (fun x_7 ex_7 => ?_)
        obtain rfl : x_7 = iZ (i - w) := ex_7.trans (iZ_sub i w)
        refine lv_icmp_le (tgt := 28) hx hb dX12_comes_19 rfl (fun c_8 => ?_) (fun c_8 => ?_)
        ·
          have c_8 := (zle (x := iZ (10 * (lt (sh Af 10) x w y i))) (y := iZ (i - w)) rfl rfl ⟨by omega, by omega⟩ ⟨by omega, by omega⟩).mp c_8
          refine lv_iload hx hb dX12_comes_28 (lv_at hl 0 rfl) ?_
          exact EPi hx hb hr hlocks ⟨cmF_eq ⟨hi1, by omega, hi3⟩, by omega, by omega⟩ dX12_comes_30
        ·
          have c_8 := mt (zle (x := iZ (10 * (lt (sh Af 10) x w y i))) (y := iZ (i - w)) rfl rfl ⟨by omega, by omega⟩ ⟨by omega, by omega⟩).mpr c_8
          refine lv_iinc (v := iZ (i + 1)) (lv' := [(5, .int (iZ (i + 1))), (0, .ref hm), (1, .int (iZ x)), (2, .int (iZ w)), (3, .int (iZ y)), (4, .int (iZ 10))]) hx hb dX12_comes_22 hl (k := 0) rfl (iZ_add i 1) (by decide) rfl (fun ls hl => ?_)
          refine lv_goto (tgt := 3) hx hb dX12_comes_25 rfl ?_
          exact ih1  (i + 1) _ (by omega) (by omega) (by omega) (by intro t h1 h2; rcases Int.lt_or_eq_of_le (show t ≤ i by omega) with h3 | h3; exact hi3 t h1 h3; rw [h3]; omega) (lv_sub hl [0, 1, 2, 3, 4, 5] rfl)
    exact HL1 202 w _ (by omega) (by omega) (by omega) (fun t h1 h2 => absurd h1 (by omega)) (lv_sub hl [0, 1, 2, 3, 4, 5] rfl)
set_option maxHeartbeats 4000000 in
set_option maxRecDepth 100000 in
theorem m_arrival (l : Launch) (D : va_G) (k : Nat → ClassId) (fs : List Value) (hm : Nat) (Ma : Nat) (Af : Nat → Int32) (x : Int) (w : Int) (y : Int) (f0 : fs[0]? = some (.ref Ma)) (hM : M0 Af) (h9x : 0 ≤ x ∧ x < gz Af 0) (h9w : 0 ≤ w ∧ w ≤ 1000000) (h9y : 0 ≤ y ∧ y < gz Af 0) : RP l yX12_arrival cX12_arrival 4 (some .int) 4 D k [.ref hm, .int (iZ x), .int (iZ w), .int (iZ y)] [(hm, .inr (12, fs)), (Ma, .inl (k 1, 5340, .inl Af))] (fun z => z = arF (sh Af 10) (sh Af 46) (gz Af 1) x w y ∧ ((x = y ∧ z = w) ∨ (¬ x = y ∧ (z = 1000000 ∨ (w ≤ 400 ∧ w ≤ z ∧ z ≤ w + 20))))) := by
  refine MRP (by decide) (Nat.le_of_ble_eq_true rfl) (fun p e s m below meth c ls hx hb hml hr hlocks hts hown hKK hP hl => ?_)
  have hK := hKK.1
  have hl : lv_has ls 4 [(0, .ref hm), (1, .int (iZ x)), (2, .int (iZ w)), (3, .int (iZ y))] := hl
  obtain ⟨m0, m1, m3, m4, m5, mF, mO, mS⟩ := id hM
  refine lv_iload_n hx hb dX12_arrival_0 rfl (lv_at hl 1 rfl) ?_
  refine lv_iload_n hx hb dX12_arrival_1 rfl (lv_at hl 3 rfl) ?_
  refine lv_icmp_ne (tgt := 7) hx hb dX12_arrival_2 rfl (fun c_1 => ?_) (fun c_1 => ?_)
  ·
    have c_1 := mt (zeq (x := iZ x) (y := iZ y) rfl rfl ⟨by omega, by omega⟩ ⟨by omega, by omega⟩).mpr c_1
    refine lv_iload_n hx hb dX12_arrival_7 rfl (lv_at hl 2 rfl) ?_
    refine lv_sipush (v := iZ 400) hx hb dX12_arrival_8 sip_400 ?_
    refine lv_icmp_gt (tgt := 24) hx hb dX12_arrival_11 rfl (fun c_2 => ?_) (fun c_2 => ?_)
    ·
      have c_2 := (zlt (x := iZ 400) (y := iZ w) rfl rfl wn_400 ⟨by omega, by omega⟩).mp c_2
      refine lv_ldc (own := RX12) (v := 1000000) hx hb hown (hts _ qk_X12_88) dX12_arrival_24 ?_
      refine W.eq (g2 := F0 m 26 ls [.int (iZ 1000000)]) rfl ?_
      refine lv_goto (tgt := 37) hx hb dX12_arrival_26 rfl ?_
      exact EPi hx hb hr hlocks ⟨by unfold arF; rw [if_neg (by omega)]; first | rw [if_pos (by omega)] | rw [if_neg (by omega), if_pos (by omega)], Or.inr ⟨by omega, Or.inl rfl⟩⟩ dX12_arrival_37
    ·
      have c_2 := mt (zlt (x := iZ 400) (y := iZ w) rfl rfl wn_400 ⟨by omega, by omega⟩).mpr c_2
      refine lv_aload_n hx hb dX12_arrival_14 rfl (lv_at hl 0 rfl) ?_
      refine lv_iload_n hx hb dX12_arrival_15 rfl (lv_at hl 1 rfl) ?_
      refine lv_iload_n hx hb dX12_arrival_16 rfl (lv_at hl 3 rfl) ?_
      refine lv_iload_n hx hb dX12_arrival_17 rfl (lv_at hl 2 rfl) ?_
      refine CRV (As := [.int (iZ x), .int (iZ y), .int (iZ w)]) (rest := []) hx hb hml hown hts hKK hP (m_iced l D k fs hm Ma Af x y w f0 hM ⟨by omega, by omega⟩ ⟨by omega, by omega⟩ ⟨by omega, by omega⟩) ci_X12_isIced qm_X12_271 ⟨Nat.le_of_ble_eq_true rfl, Nat.le_of_ble_eq_true rfl⟩ ⟨Nat.le_of_ble_eq_true rfl, Nat.le_of_ble_eq_true rfl⟩ 0 rfl rfl rfl hl.1 rfl (Nat.le_of_ble_eq_true rfl) dX12_arrival_18 ?_
      have hz_h_3 := bz_rg (isIc (sh Af 46) (gz Af 1) x y w)
      refine lv_if_eq (tgt := 29) hx hb dX12_arrival_21 rfl (fun c_4 => ?_) (fun c_4 => ?_)
      ·
        have c_4 := (zeq (x := iZ (bz (isIc (sh Af 46) (gz Af 1) x y w))) (y := iZ 0) rfl rfl ⟨by omega, by omega⟩ wn_0).mp c_4
        refine lv_aload_n hx hb dX12_arrival_29 rfl (lv_at hl 0 rfl) ?_
        refine lv_iload_n hx hb dX12_arrival_30 rfl (lv_at hl 1 rfl) ?_
        refine lv_iload_n hx hb dX12_arrival_31 rfl (lv_at hl 2 rfl) ?_
        refine lv_iload_n hx hb dX12_arrival_32 rfl (lv_at hl 3 rfl) ?_
        refine lv_iconst (v := iZ 1) hx hb dX12_arrival_33 rfl ?_
        refine CPV (As := [.int (iZ x), .int (iZ w), .int (iZ y), .int (iZ 1)]) (rest := []) hx hb hml hown hts hKK hP (m_comes l D k fs hm Ma Af x w y 1 f0 hM ⟨by omega, by omega⟩ ⟨by omega, by omega⟩ ⟨by omega, by omega⟩ (by omega)) ci_X12_comes qm_X12_274 ⟨Nat.le_of_ble_eq_true rfl, Nat.le_of_ble_eq_true rfl⟩ ⟨Nat.le_of_ble_eq_true rfl, Nat.le_of_ble_eq_true rfl⟩ 0 rfl rfl rfl hl.1 rfl (Nat.le_of_ble_eq_true rfl) dX12_arrival_34 (fun z_5 hz_5 => ?_)
        obtain ⟨ez_5, az_5⟩ := hz_5
        exact EPi hx hb hr hlocks ⟨by unfold arF; rw [if_neg (by omega), if_neg (by omega), if_neg (by omega)]; omega, Or.inr ⟨by omega, Or.inr ⟨by omega, by omega, by omega⟩⟩⟩ dX12_arrival_37
      ·
        have c_4 := mt (zeq (x := iZ (bz (isIc (sh Af 46) (gz Af 1) x y w))) (y := iZ 0) rfl rfl ⟨by omega, by omega⟩ wn_0).mpr c_4
        refine lv_ldc (own := RX12) (v := 1000000) hx hb hown (hts _ qk_X12_88) dX12_arrival_24 ?_
        refine W.eq (g2 := F0 m 26 ls [.int (iZ 1000000)]) rfl ?_
        refine lv_goto (tgt := 37) hx hb dX12_arrival_26 rfl ?_
        exact EPi hx hb hr hlocks ⟨by unfold arF; rw [if_neg (by omega)]; first | rw [if_pos (by omega)] | rw [if_neg (by omega), if_pos (by omega)], Or.inr ⟨by omega, Or.inl rfl⟩⟩ dX12_arrival_37
  ·
    have c_1 := (zeq (x := iZ x) (y := iZ y) rfl rfl ⟨by omega, by omega⟩ ⟨by omega, by omega⟩).mp c_1
    refine lv_iload_n hx hb dX12_arrival_5 rfl (lv_at hl 2 rfl) ?_
    exact EPi hx hb hr hlocks ⟨by unfold arF; rw [if_pos (by omega)], Or.inl ⟨by omega, rfl⟩⟩ dX12_arrival_6
set_option maxHeartbeats 4000000 in
set_option maxRecDepth 100000 in
theorem m_seen (l : Launch) (D : va_G) (k : Nat → ClassId) (fs : List Value) (hm : Nat) (Ma : Nat) (Af : Nat → Int32) (x : Int) (y : Int) (w : Int) (f0 : fs[0]? = some (.ref Ma)) (hM : M0 Af) (h9x : 0 ≤ x ∧ x < gz Af 0) (h9y : 0 ≤ y ∧ y < gz Af 0) (h9w : 0 ≤ w ∧ w ≤ 700) : RP l yX12_seenBy cX12_seenBy 5 (some .int) 5 D k [.ref hm, .int (iZ x), .int (iZ y), .int (iZ w)] [(hm, .inr (12, fs)), (Ma, .inl (k 1, 5340, .inl Af))] (fun z => z = snF (sh Af 10) (sh Af 46) (gz Af 1) x y w ∧ -1 ≤ z ∧ z ≤ w) := by
  refine MRP (by decide) (Nat.le_of_ble_eq_true rfl) (fun p e s m below meth c ls hx hb hml hr hlocks hts hown hKK hP hl => ?_)
  have hK := hKK.1
  have hl : lv_has ls 5 [(0, .ref hm), (1, .int (iZ x)), (2, .int (iZ y)), (3, .int (iZ w))] := hl
  obtain ⟨m0, m1, m3, m4, m5, mF, mO, mS⟩ := id hM
  refine lv_iload_n hx hb dX12_seenBy_0 rfl (lv_at hl 3 rfl) ?_
  refine lv_istore (lv' := [(4, .int (iZ w)), (0, .ref hm), (1, .int (iZ x)), (2, .int (iZ y)), (3, .int (iZ w))]) hx hb dX12_seenBy_1 hl (bl rfl) rfl (fun ls hl => ?_)
  have HL1 : ∀ (fu : Nat) (i : Int) (ls : Array Slot), (i + 2) < (fu : Int) → -1 ≤ i → i ≤ w → (∀ t : Int, i < t → t ≤ w → ¬ arF (sh Af 10) (sh Af 46) (gz Af 1) y t x ≤ w) → lv_has ls 5 [(4, .int (iZ i)), (0, .ref hm), (1, .int (iZ x)), (2, .int (iZ y)), (3, .int (iZ w))] → W p l e (rj 5 0 0) s m [.ref hm, .int (iZ x), .int (iZ y), .int (iZ w)].toArray below meth c s.heap [] 0 0 (MQ below (QcP (fun z => z = snF (sh Af 10) (sh Af 46) (gz Af 1) x y w ∧ -1 ≤ z ∧ z ≤ w)) [.ref hm, .int (iZ x), .int (iZ y), .int (iZ w)].toArray s 0 0 (fun _ => False)) (F0 m 3 ls []) := by
    intro fu
    induction fu with
    | zero => intro i ls hμ1 hi1 hi2 hi3 hl; exact absurd hμ1 (by omega)
    | succ fu ih1 =>
      intro i ls hμ1 hi1 hi2 hi3 hl
      refine lv_iload hx hb dX12_seenBy_3 (lv_at hl 0 rfl) ?_
      refine lv_if_lt (tgt := 26) hx hb dX12_seenBy_5 rfl (fun c_1 => ?_) (fun c_1 => ?_)
      ·
        have c_1 := (zlt (x := iZ i) (y := iZ 0) rfl rfl ⟨by omega, by omega⟩ wn_0).mp c_1
        refine lv_iload hx hb dX12_seenBy_26 (lv_at hl 0 rfl) ?_
        exact EPi hx hb hr hlocks ⟨snF_eq ⟨⟨by omega, by omega⟩, fun _ => by omega, hi3⟩, by omega, by omega⟩ dX12_seenBy_28
      ·
        have c_1 := mt (zlt (x := iZ i) (y := iZ 0) rfl rfl ⟨by omega, by omega⟩ wn_0).mpr c_1
        refine lv_aload_n hx hb dX12_seenBy_8 rfl (lv_at hl 1 rfl) ?_
        refine lv_iload_n hx hb dX12_seenBy_9 rfl (lv_at hl 3 rfl) ?_
        refine lv_iload hx hb dX12_seenBy_10 (lv_at hl 0 rfl) ?_
        refine lv_iload_n hx hb dX12_seenBy_12 rfl (lv_at hl 2 rfl) ?_
        refine CPV (As := [.int (iZ y), .int (iZ i), .int (iZ x)]) (rest := []) hx hb hml hown hts hKK hP (m_arrival l D k fs hm Ma Af y i x f0 hM ⟨by omega, by omega⟩ ⟨by omega, by omega⟩ ⟨by omega, by omega⟩) ci_X12_arrival qm_X12_280 ⟨Nat.le_of_ble_eq_true rfl, Nat.le_of_ble_eq_true rfl⟩ ⟨Nat.le_of_ble_eq_true rfl, Nat.le_of_ble_eq_true rfl⟩ 0 rfl rfl rfl hl.1 rfl (Nat.le_of_ble_eq_true rfl) dX12_seenBy_13 (fun z_2 hz_2 => ?_)
        obtain ⟨ez_2, az_2⟩ := hz_2
        refine lv_iload_n hx hb dX12_seenBy_16 rfl (lv_at hl 4 rfl) ?_
        refine lv_icmp_le (tgt := 26) hx hb dX12_seenBy_17 rfl (fun c_3 => ?_) (fun c_3 => ?_)
        ·
          have c_3 := (zle (x := iZ z_2) (y := iZ w) rfl rfl ⟨by omega, by omega⟩ ⟨by omega, by omega⟩).mp c_3
          refine lv_iload hx hb dX12_seenBy_26 (lv_at hl 0 rfl) ?_
          exact EPi hx hb hr hlocks ⟨snF_eq ⟨⟨by omega, by omega⟩, fun _ => by omega, hi3⟩, by omega, by omega⟩ dX12_seenBy_28
        ·
          have c_3 := mt (zle (x := iZ z_2) (y := iZ w) rfl rfl ⟨by omega, by omega⟩ ⟨by omega, by omega⟩).mpr c_3
          refine lv_iinc (v := iZ (i + (-1))) (lv' := [(4, .int (iZ (i + (-1)))), (0, .ref hm), (1, .int (iZ x)), (2, .int (iZ y)), (3, .int (iZ w))]) hx hb dX12_seenBy_20 hl (k := 0) rfl (iZ_add i (-1)) (by decide) rfl (fun ls hl => ?_)
          refine lv_goto (tgt := 3) hx hb dX12_seenBy_23 rfl ?_
          exact ih1  (i - 1) _ (by omega) (by omega) (by omega) (by intro t h1 h2; rcases Int.lt_or_eq_of_le (show i ≤ t by omega) with h3 | h3; exact hi3 t h3 h2; rw [← h3]; omega) (lv_sub hl [0, 1, 2, 3, 4] rfl)
  exact HL1 703 w _ (by omega) (by omega) (by omega) (fun t h1 h2 => absurd h1 (by omega)) (lv_sub hl [0, 1, 2, 3, 4] rfl)
set_option maxHeartbeats 4000000 in
set_option maxRecDepth 100000 in
theorem m_echo (l : Launch) (D : va_G) (k : Nat → ClassId) (fs : List Value) (hm : Nat) (Ma : Nat) (Af : Nat → Int32) (x : Int) (w : Int) (y : Int) (f0 : fs[0]? = some (.ref Ma)) (hM : M0 Af) (h9x : 0 ≤ x ∧ x < gz Af 0) (h9w : 0 ≤ w ∧ w ≤ 400) (h9y : 0 ≤ y ∧ y < gz Af 0) (hne : ¬ x = y) : RP l yX12_echoOf cX12_echoOf 5 (some .int) 5 D k [.ref hm, .int (iZ x), .int (iZ w), .int (iZ y)] [(hm, .inr (12, fs)), (Ma, .inl (k 1, 5340, .inl Af))] (fun z => z = ecF (sh Af 10) (sh Af 46) (gz Af 1) x w y ∧ (z = 1000000 ∨ (0 ≤ z ∧ z ≤ 420))) := by
  refine MRP (by decide) (Nat.le_of_ble_eq_true rfl) (fun p e s m below meth c ls hx hb hml hr hlocks hts hown hKK hP hl => ?_)
  have hK := hKK.1
  have hl : lv_has ls 5 [(0, .ref hm), (1, .int (iZ x)), (2, .int (iZ w)), (3, .int (iZ y))] := hl
  obtain ⟨m0, m1, m3, m4, m5, mF, mO, mS⟩ := id hM
  refine lv_aload_n hx hb dX12_echoOf_0 rfl (lv_at hl 0 rfl) ?_
  refine lv_iload_n hx hb dX12_echoOf_1 rfl (lv_at hl 1 rfl) ?_
  refine lv_iload_n hx hb dX12_echoOf_2 rfl (lv_at hl 2 rfl) ?_
  refine lv_iload_n hx hb dX12_echoOf_3 rfl (lv_at hl 3 rfl) ?_
  refine CPV (As := [.int (iZ x), .int (iZ w), .int (iZ y)]) (rest := []) hx hb hml hown hts hKK hP (m_arrival l D k fs hm Ma Af x w y f0 hM ⟨by omega, by omega⟩ ⟨by omega, by omega⟩ ⟨by omega, by omega⟩) ci_X12_arrival qm_X12_280 ⟨Nat.le_of_ble_eq_true rfl, Nat.le_of_ble_eq_true rfl⟩ ⟨Nat.le_of_ble_eq_true rfl, Nat.le_of_ble_eq_true rfl⟩ 0 rfl rfl rfl hl.1 rfl (Nat.le_of_ble_eq_true rfl) dX12_echoOf_4 (fun z_1 hz_1 => ?_)
  obtain ⟨ez_1, az_1⟩ := hz_1
  refine lv_istore (lv' := [(4, .int (iZ z_1)), (0, .ref hm), (1, .int (iZ x)), (2, .int (iZ w)), (3, .int (iZ y))]) hx hb dX12_echoOf_7 hl (bl rfl) rfl (fun ls hl => ?_)
  refine lv_iload hx hb dX12_echoOf_9 (lv_at hl 0 rfl) ?_
  refine lv_ldc (own := RX12) (v := 1000000) hx hb hown (hts _ qk_X12_88) dX12_echoOf_11 ?_
  refine W.eq (g2 := F0 m 13 ls [.int (iZ 1000000), .int (iZ z_1)]) rfl ?_
  refine lv_icmp_ne (tgt := 21) hx hb dX12_echoOf_13 rfl (fun c_2 => ?_) (fun c_2 => ?_)
  ·
    have c_2 := mt (zeq (x := iZ z_1) (y := iZ 1000000) rfl rfl ⟨by omega, by omega⟩ wn_1000000).mpr c_2
    refine lv_aload_n hx hb dX12_echoOf_21 rfl (lv_at hl 1 rfl) ?_
    refine lv_iload_n hx hb dX12_echoOf_22 rfl (lv_at hl 4 rfl) ?_
    refine lv_iload hx hb dX12_echoOf_23 (lv_at hl 0 rfl) ?_
    refine lv_iload_n hx hb dX12_echoOf_25 rfl (lv_at hl 2 rfl) ?_
    refine CPV (As := [.int (iZ y), .int (iZ z_1), .int (iZ x)]) (rest := []) hx hb hml hown hts hKK hP (m_arrival l D k fs hm Ma Af y z_1 x f0 hM ⟨by omega, by omega⟩ ⟨by omega, by omega⟩ ⟨by omega, by omega⟩) ci_X12_arrival qm_X12_280 ⟨Nat.le_of_ble_eq_true rfl, Nat.le_of_ble_eq_true rfl⟩ ⟨Nat.le_of_ble_eq_true rfl, Nat.le_of_ble_eq_true rfl⟩ 0 rfl rfl rfl hl.1 rfl (Nat.le_of_ble_eq_true rfl) dX12_echoOf_26 (fun z_3 hz_3 => ?_)
    obtain ⟨ez_3, az_3⟩ := hz_3
    exact EPi hx hb hr hlocks ⟨by unfold ecF; rw [if_neg (by omega)]; rw [← ez_1]; omega, by omega⟩ dX12_echoOf_29
  ·
    have c_2 := (zeq (x := iZ z_1) (y := iZ 1000000) rfl rfl ⟨by omega, by omega⟩ wn_1000000).mp c_2
    refine lv_ldc (own := RX12) (v := 1000000) hx hb hown (hts _ qk_X12_88) dX12_echoOf_16 ?_
    refine W.eq (g2 := F0 m 18 ls [.int (iZ 1000000)]) rfl ?_
    refine lv_goto (tgt := 29) hx hb dX12_echoOf_18 rfl ?_
    exact EPi hx hb hr hlocks ⟨by unfold ecF; rw [if_pos (by omega)], Or.inl rfl⟩ dX12_echoOf_29