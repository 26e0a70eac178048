def wb (x y : Int32) : Int32 := (x >>> (y &&& 31)) &&& 1
theorem wb_01 (x y : Int32) {z : Int} (h : iZ z = wb x y) (hz : -2147483648 ≤ z ∧ z < 2147483648) : z = 0 ∨ z = 1 := by
  obtain ⟨j, hj, he⟩ := pk_andE (x >>> (y &&& 31)) (m := 1) 1 (by decide)
  have h2 : iZ z = nI j := h.trans he
  rw [← iZ_nat] at h2
  have h3 := (zeq rfl rfl hz ⟨by omega, by omega⟩).mp h2
  omega
theorem wi_fin {z1 z2 a r : Int} (h1 : iZ z1 = iZ a >>> (iZ r &&& 31)) (h2 : iZ z2 = iZ z1 &&& iZ 1) (hz : -2147483648 ≤ z2 ∧ z2 < 2147483648) : iZ z2 = wb (iZ a) (iZ r) ∧ (z2 = 0 ∨ z2 = 1) := by
  have h : iZ z2 = wb (iZ a) (iZ r) := by rw [h2, h1]; rfl
  exact ⟨h, wb_01 _ _ h hz⟩
set_option maxHeartbeats 4000000 in
set_option maxRecDepth 100000 in
theorem k_wornIn (l : Launch) (D : va_G) (k : Nat → ClassId) (h hw : Nat) (fs : List Value) (f0 : fs[0]? = some (.ref hw)) (f : Nat → Int32) (r t : Int) (ht : 0 ≤ t ∧ t ≤ 400) : RP l yX0_wornIn cX0_wornIn 3 (some .int) 0 D k [.ref h, .int (iZ r), .int (iZ t)] [(h, .inr (0, fs)), (hw, .inl (k 1, 401, .inl f))] (fun z => iZ z = wb (iZ (gz f t)) (iZ r) ∧ (z = 0 ∨ z = 1)) := by
  refine MRP (by decide) (Nat.le_of_ble_eq_true rfl) (fun p e s m below meth c ls hx hb hml hr hlocks hts hown hKK hP hl => ?_)
  have hK := hKK.1
  have hl : lv_has ls 3 [(0, .ref h), (1, .int (iZ r)), (2, .int (iZ t))] := hl
  refine lv_aload_n hx hb dX0_wornIn_0 rfl (lv_at hl 0 rfl) ?_
  refine va_get (D := D) (ci := 0) (v := .ref hw) (C := RX0) (T := TX0) (N := 6) hx hb hts iX0 hown hK hP 0 rfl rfl 0 (by decide) (hts _ qf_X0_9) (fun _ h => h) f0 dX0_wornIn_1 ?_
  refine lv_iload_n hx hb dX0_wornIn_4 rfl (lv_at hl 2 rfl) ?_
  refine va_iald hx hb hK hP 1 1 rfl rfl (zin (e := t) (n := 401) ⟨by omega, by omega⟩ (by decide)) dX0_wornIn_5 ?_
  refine lv_topi (fun x_1 ex_1 => ?_)
  obtain rfl : x_1 = iZ (gz f t) := ex_1.trans (gz_eq ⟨by omega, by omega⟩)
  have h_2 := gz_rg f t
  refine lv_iload_n hx hb dX0_wornIn_6 rfl (lv_at hl 1 rfl) ?_
  refine lv_ishr hx hb dX0_wornIn_7 ?_
  refine lv_topi (fun x_4 ex_4 => ?_)
  obtain ⟨z_3, hz_3, hz_3a, hz_3b⟩ := i32_z x_4
  subst hz_3
  refine lv_iconst (v := iZ 1) hx hb dX0_wornIn_8 (by decide) ?_
  refine lv_iand hx hb dX0_wornIn_9 ?_
  refine lv_topi (fun x_6 ex_6 => ?_)
  obtain ⟨z_5, hz_5, hz_5a, hz_5b⟩ := i32_z x_6
  subst hz_5
  exact EPi hx hb hr hlocks (wi_fin (by assumption) (by assumption) ⟨by assumption, by assumption⟩) dX0_wornIn_10
set_option maxHeartbeats 4000000 in
set_option maxRecDepth 100000 in
theorem k_wornNow (l : Launch) (D : va_G) (k : Nat → ClassId) (h hw : Nat) (fs : List Value) (f0 : fs[0]? = some (.ref hw)) (f : Nat → Int32) (w : Int) (f4 : fs[4]? = some (.int (iZ w))) (hw0 : 0 ≤ w ∧ w ≤ 400) : RD l yX0_wornNow cX0_wornNow 1 (some .int) 0 D k [.ref h] [(h, .inr (0, fs)), (hw, .inl (k 1, 401, .inl f))] (iZ (gz f w)) := by
  refine MR (by decide) (Nat.le_of_ble_eq_true rfl) (fun p e s m below meth c ls hx hb hml hr hlocks hts hown hKK hP hl => ?_)
  have hK := hKK.1
  have hl : lv_has ls 1 [(0, .ref h)] := hl
  refine lv_aload_n hx hb dX0_wornNow_0 rfl (lv_at hl 0 rfl) ?_
  refine va_get (D := D) (ci := 0) (v := .ref hw) (C := RX0) (T := TX0) (N := 6) hx hb hts iX0 hown hK hP 0 rfl rfl 0 (by decide) (hts _ qf_X0_9) (fun _ h => h) f0 dX0_wornNow_1 ?_
  refine lv_aload_n hx hb dX0_wornNow_4 rfl (lv_at hl 0 rfl) ?_
  refine va_get (D := D) (ci := 0) (v := .int (iZ w)) (C := RX0) (T := TX0) (N := 6) hx hb hts iX0 hown hK hP 0 rfl rfl 4 (by decide) (hts _ qf_X0_24) (fun _ h => h) f4 dX0_wornNow_5 ?_
  refine va_iald hx hb hK hP 1 1 rfl rfl (zin (e := w) (n := 401) ⟨by omega, by omega⟩ (by decide)) dX0_wornNow_8 ?_
  refine lv_topi (fun x_1 ex_1 => ?_)
  obtain rfl : x_1 = iZ (gz f w) := ex_1.trans (gz_eq ⟨by omega, by omega⟩)
  have h_2 := gz_rg f w
  exact ERi hx hb hr hlocks rfl dX0_wornNow_9
set_option maxHeartbeats 4000000 in
set_option maxRecDepth 100000 in
theorem k_firstKnown (l : Launch) (D : va_G) (k : Nat → ClassId) (h hk : Nat) (fs : List Value) (f3 : fs[3]? = some (.ref hk)) (f : Nat → Int32) (o r : Int) (ho : 0 ≤ o ∧ o < 20) (hr0 : 0 ≤ r ∧ r < 6) : RD l yX0_firstKnown cX0_firstKnown 3 (some .int) 0 D k [.ref h, .int (iZ o), .int (iZ r)] [(h, .inr (0, fs)), (hk, .inl (k 1, 120, .inl f))] (iZ (gz f ((o * 6) + r))) := by
  refine MR (by decide) (Nat.le_of_ble_eq_true rfl) (fun p e s m below meth c ls hx hb hml hr hlocks hts hown hKK hP hl => ?_)
  have hK := hKK.1
  have hl : lv_has ls 3 [(0, .ref h), (1, .int (iZ o)), (2, .int (iZ r))] := hl
  refine lv_aload_n hx hb dX0_firstKnown_0 rfl (lv_at hl 0 rfl) ?_
  refine va_get (D := D) (ci := 0) (v := .ref hk) (C := RX0) (T := TX0) (N := 6) hx hb hts iX0 hown hK hP 0 rfl rfl 3 (by decide) (hts _ qf_X0_21) (fun _ h => h) f3 dX0_firstKnown_1 ?_
  refine lv_iload_n hx hb dX0_firstKnown_4 rfl (lv_at hl 1 rfl) ?_
  refine lv_bipush (v := iZ 6) hx hb dX0_firstKnown_5 (by decide) ?_
  refine lv_imul hx hb dX0_firstKnown_7 ?_
  refine lv_topi (fun x_1 ex_1 => ?_)
  obtain rfl : x_1 = iZ (o * 6) := ex_1.trans (iZ_mul o 6)
  refine lv_iload_n hx hb dX0_firstKnown_8 rfl (lv_at hl 2 rfl) ?_
  refine lv_iadd hx hb dX0_firstKnown_9 ?_
  refine lv_topi (fun x_2 ex_2 => ?_)
  obtain rfl : x_2 = iZ ((o * 6) + r) := ex_2.trans (iZ_add (o * 6) r)
  refine va_iald hx hb hK hP 1 1 rfl rfl (zin (e := ((o * 6) + r)) (n := 120) ⟨by omega, by omega⟩ (by decide)) dX0_firstKnown_10 ?_
  refine lv_topi (fun x_3 ex_3 => ?_)
  obtain rfl : x_3 = iZ (gz f ((o * 6) + r)) := ex_3.trans (gz_eq ⟨by omega, by omega⟩)
  have h_4 := gz_rg f ((o * 6) + r)
  exact ERi hx hb hr hlocks rfl dX0_firstKnown_11
set_option maxHeartbeats 4000000 in
set_option maxRecDepth 100000 in
theorem k_knownAhead (l : Launch) (D : va_G) (k : Nat → ClassId) (h hk : Nat) (fs : List Value) (f3 : fs[3]? = some (.ref hk)) (f : Nat → Int32) (n : Int) (f5 : fs[5]? = some (.int (iZ n))) (hn : 0 ≤ n ∧ n ≤ 20) (o r : Int) (ho : 0 ≤ o ∧ o < 20) (hr0 : 0 ≤ r ∧ r < 6) : RP l yX0_knownAhead cX0_knownAhead 7 (some .int) 1 D k [.ref h, .int (iZ o), .int (iZ r)] [(h, .inr (0, fs)), (hk, .inl (k 1, 120, .inl f))] (fun z => 0 ≤ z ∧ z ≤ 20) := by
  refine MRP (by decide) (Nat.le_of_ble_eq_true rfl) (fun p e s m below meth c ls hx hb hml hr hlocks hts hown hKK hP hl => ?_)
  have hK := hKK.1
  have hl : lv_has ls 7 [(0, .ref h), (1, .int (iZ o)), (2, .int (iZ r))] := hl
  refine lv_aload_n hx hb dX0_knownAhead_0 rfl (lv_at hl 0 rfl) ?_
  refine lv_iload_n hx hb dX0_knownAhead_1 rfl (lv_at hl 1 rfl) ?_
  refine lv_iload_n hx hb dX0_knownAhead_2 rfl (lv_at hl 2 rfl) ?_
  refine CRV (As := [.int (iZ o), .int (iZ r)]) (rest := []) hx hb hml hown hts hKK hP (k_firstKnown l D k h hk fs f3 f o r ⟨by omega, by omega⟩ ⟨by omega, by omega⟩) ci_X0_firstKnown qm_X0_37 ⟨Nat.le_of_ble_eq_true rfl, Nat.le_of_ble_eq_true rfl⟩ ⟨Nat.le_of_ble_eq_true rfl, Nat.le_of_ble_eq_true rfl⟩ 0 rfl rfl rfl hl.1 rfl (Nat.le_of_ble_eq_true rfl) dX0_knownAhead_3 ?_
  have hg_h_1 := gz_rg f ((o * 6) + r)
  refine lv_istore_n (lv' := [(3, .int (iZ (gz f ((o * 6) + r)))), (0, .ref h), (1, .int (iZ o)), (2, .int (iZ r))]) hx hb dX0_knownAhead_6 rfl hl (by decide) rfl (fun ls hl => ?_)
  refine lv_iconst (v := iZ 0) hx hb dX0_knownAhead_7 (by decide) ?_
  refine lv_istore (lv' := [(4, .int (iZ 0)), (3, .int (iZ (gz f ((o * 6) + r)))), (0, .ref h), (1, .int (iZ o)), (2, .int (iZ r))]) hx hb dX0_knownAhead_8 hl (by decide) rfl (fun ls hl => ?_)
  refine lv_iconst (v := iZ 0) hx hb dX0_knownAhead_10 (by decide) ?_
  refine lv_istore (lv' := [(5, .int (iZ 0)), (4, .int (iZ 0)), (3, .int (iZ (gz f ((o * 6) + r)))), (0, .ref h), (1, .int (iZ o)), (2, .int (iZ r))]) hx hb dX0_knownAhead_11 hl (by decide) rfl (fun ls hl => ?_)
  have HL1 : ∀ (fu : Nat) (i m1 : Int) (ls : Array Slot), (n + 1 - i) < (fu : Int) → 0 ≤ i → i ≤ n → 0 ≤ m1 → m1 ≤ i → lv_has ls 7 [(5, .int (iZ i)), (4, .int (iZ m1)), (3, .int (iZ (gz f ((o * 6) + r)))), (0, .ref h), (1, .int (iZ o)), (2, .int (iZ r))] → W p l e (rj 1 0 0) s m [.ref h, .int (iZ o), .int (iZ r)].toArray below meth c s.heap [] 0 0 (MQ below (QcP (fun z => 0 ≤ z ∧ z ≤ 20)) [.ref h, .int (iZ o), .int (iZ r)].toArray s 0 0 (fun _ => False)) (F0 m 13 ls []) := by
    intro fu
    induction fu with
    | zero => intro i m1 ls hμ1 hi1 hi2 hm1 hm2 hl; exact absurd hμ1 (by omega)
    | succ fu ih1 =>
      intro i m1 ls hμ1 hi1 hi2 hm1 hm2 hl
      refine lv_iload hx hb dX0_knownAhead_13 (lv_at hl 0 rfl) ?_
      refine lv_aload_n hx hb dX0_knownAhead_15 rfl (lv_at hl 3 rfl) ?_
      refine va_get (D := D) (ci := 0) (v := .int (iZ n)) (C := RX0) (T := TX0) (N := 6) hx hb hts iX0 hown hK hP 0 rfl rfl 5 (by decide) (hts _ qf_X0_28) (fun _ h => h) f5 dX0_knownAhead_16 ?_
      refine lv_icmp_ge (tgt := 64) hx hb dX0_knownAhead_19 (by decide) (fun c_2 => ?_) (fun c_2 => ?_)
      ·
        have c_2 := (zle (x := iZ n) (y := iZ i) rfl rfl ⟨by omega, by omega⟩ ⟨by omega, by omega⟩).mp c_2
        refine lv_iload hx hb dX0_knownAhead_64 (lv_at hl 1 rfl) ?_
        exact EPi hx hb hr hlocks (by omega) dX0_knownAhead_66
      ·
        have c_2 := mt (zle (x := iZ n) (y := iZ i) rfl rfl ⟨by omega, by omega⟩ ⟨by omega, by omega⟩).mpr c_2
        refine lv_aload_n hx hb dX0_knownAhead_22 rfl (lv_at hl 3 rfl) ?_
        refine lv_iload hx hb dX0_knownAhead_23 (lv_at hl 0 rfl) ?_
        refine lv_iload_n hx hb dX0_knownAhead_25 rfl (lv_at hl 5 rfl) ?_
        refine CRV (As := [.int (iZ i), .int (iZ r)]) (rest := []) hx hb hml hown hts hKK hP (k_firstKnown l D k h hk fs f3 f i r ⟨by omega, by omega⟩ ⟨by omega, by omega⟩) ci_X0_firstKnown qm_X0_37 ⟨Nat.le_of_ble_eq_true rfl, Nat.le_of_ble_eq_true rfl⟩ ⟨Nat.le_of_ble_eq_true rfl, Nat.le_of_ble_eq_true rfl⟩ 0 rfl rfl rfl hl.1 rfl (Nat.le_of_ble_eq_true rfl) dX0_knownAhead_26 ?_
        have hg_h_3 := gz_rg f ((i * 6) + r)
        refine lv_istore (lv' := [(6, .int (iZ (gz f ((i * 6) + r)))), (5, .int (iZ i)), (4, .int (iZ m1)), (3, .int (iZ (gz f ((o * 6) + r)))), (0, .ref h), (1, .int (iZ o)), (2, .int (iZ r))]) hx hb dX0_knownAhead_29 hl (by decide) rfl (fun ls hl => ?_)
        refine lv_iload hx hb dX0_knownAhead_31 (lv_at hl 0 rfl) ?_
        refine lv_iconst (v := iZ (-1)) hx hb dX0_knownAhead_33 (by decide) ?_
        refine lv_icmp_eq (tgt := 58) hx hb dX0_knownAhead_34 (by decide) (fun c_4 => ?_) (fun c_4 => ?_)
        ·
          have c_4 := (zeq (x := iZ (gz f ((i * 6) + r))) (y := iZ (-1)) rfl rfl ⟨by omega, by omega⟩ ⟨by omega, by omega⟩).mp c_4
          refine lv_iinc (v := iZ (i + 1)) (lv' := [(5, .int (iZ (i + 1))), (6, .int (iZ (gz f ((i * 6) + r)))), (4, .int (iZ m1)), (3, .int (iZ (gz f ((o * 6) + r)))), (0, .ref h), (1, .int (iZ o)), (2, .int (iZ r))]) hx hb dX0_knownAhead_58 hl (k := 1) rfl (iZ_add i 1) (by decide) rfl (fun ls hl => ?_)
          refine lv_goto (tgt := 13) hx hb dX0_knownAhead_61 (by decide) ?_
          exact ih1  (i + 1) m1 _ (by omega) (by omega) (by omega) (by omega) (by omega) (lv_sub hl [0, 2, 3, 4, 5, 6] rfl)
        ·
          have c_4 := mt (zeq (x := iZ (gz f ((i * 6) + r))) (y := iZ (-1)) rfl rfl ⟨by omega, by omega⟩ ⟨by omega, by omega⟩).mpr c_4
          refine lv_iload hx hb dX0_knownAhead_37 (lv_at hl 0 rfl) ?_
          refine lv_iload_n hx hb dX0_knownAhead_39 rfl (lv_at hl 3 rfl) ?_
          refine lv_icmp_lt (tgt := 55) hx hb dX0_knownAhead_40 (by decide) (fun c_5 => ?_) (fun c_5 => ?_)
          ·
            have c_5 := (zlt (x := iZ (gz f ((i * 6) + r))) (y := iZ (gz f ((o * 6) + r))) rfl rfl ⟨by omega, by omega⟩ ⟨by omega, by omega⟩).mp c_5
            refine lv_iinc (v := iZ (m1 + 1)) (lv' := [(4, .int (iZ (m1 + 1))), (6, .int (iZ (gz f ((i * 6) + r)))), (5, .int (iZ i)), (3, .int (iZ (gz f ((o * 6) + r)))), (0, .ref h), (1, .int (iZ o)), (2, .int (iZ r))]) hx hb dX0_knownAhead_55 hl (k := 2) rfl (iZ_add m1 1) (by decide) rfl (fun ls hl => ?_)
            refine lv_iinc (v := iZ (i + 1)) (lv' := [(5, .int (iZ (i + 1))), (4, .int (iZ (m1 + 1))), (6, .int (iZ (gz f ((i * 6) + r)))), (3, .int (iZ (gz f ((o * 6) + r)))), (0, .ref h), (1, .int (iZ o)), (2, .int (iZ r))]) hx hb dX0_knownAhead_58 hl (k := 2) rfl (iZ_add i 1) (by decide) rfl (fun ls hl => ?_)
            refine lv_goto (tgt := 13) hx hb dX0_knownAhead_61 (by decide) ?_
            exact ih1  (i + 1) (m1 + 1) _ (by omega) (by omega) (by omega) (by omega) (by omega) (lv_sub hl [0, 1, 3, 4, 5, 6] rfl)
          ·
            have c_5 := mt (zlt (x := iZ (gz f ((i * 6) + r))) (y := iZ (gz f ((o * 6) + r))) rfl rfl ⟨by omega, by omega⟩ ⟨by omega, by omega⟩).mpr c_5
            refine lv_iload hx hb dX0_knownAhead_43 (lv_at hl 0 rfl) ?_
            refine lv_iload_n hx hb dX0_knownAhead_45 rfl (lv_at hl 3 rfl) ?_
            refine lv_icmp_ne (tgt := 58) hx hb dX0_knownAhead_46 (by decide) (fun c_6 => ?_) (fun c_6 => ?_)
            ·
              have c_6 := mt (zeq (x := iZ (gz f ((i * 6) + r))) (y := iZ (gz f ((o * 6) + r))) rfl rfl ⟨by omega, by omega⟩ ⟨by omega, by omega⟩).mpr c_6
              refine lv_iinc (v := iZ (i + 1)) (lv' := [(5, .int (iZ (i + 1))), (6, .int (iZ (gz f ((i * 6) + r)))), (4, .int (iZ m1)), (3, .int (iZ (gz f ((o * 6) + r)))), (0, .ref h), (1, .int (iZ o)), (2, .int (iZ r))]) hx hb dX0_knownAhead_58 hl (k := 1) rfl (iZ_add i 1) (by decide) rfl (fun ls hl => ?_)
              refine lv_goto (tgt := 13) hx hb dX0_knownAhead_61 (by decide) ?_
              exact ih1  (i + 1) m1 _ (by omega) (by omega) (by omega) (by omega) (by omega) (lv_sub hl [0, 2, 3, 4, 5, 6] rfl)
            ·
              have c_6 := (zeq (x := iZ (gz f ((i * 6) + r))) (y := iZ (gz f ((o * 6) + r))) rfl rfl ⟨by omega, by omega⟩ ⟨by omega, by omega⟩).mp c_6
              refine lv_iload hx hb dX0_knownAhead_49 (lv_at hl 1 rfl) ?_
              refine lv_iload_n hx hb dX0_knownAhead_51 rfl (lv_at hl 5 rfl) ?_
              refine lv_icmp_ge (tgt := 58) hx hb dX0_knownAhead_52 (by decide) (fun c_7 => ?_) (fun c_7 => ?_)
              ·
                have c_7 := (zle (x := iZ o) (y := iZ i) rfl rfl ⟨by omega, by omega⟩ ⟨by omega, by omega⟩).mp c_7
                refine lv_iinc (v := iZ (i + 1)) (lv' := [(5, .int (iZ (i + 1))), (6, .int (iZ (gz f ((i * 6) + r)))), (4, .int (iZ m1)), (3, .int (iZ (gz f ((o * 6) + r)))), (0, .ref h), (1, .int (iZ o)), (2, .int (iZ r))]) hx hb dX0_knownAhead_58 hl (k := 1) rfl (iZ_add i 1) (by decide) rfl (fun ls hl => ?_)
                refine lv_goto (tgt := 13) hx hb dX0_knownAhead_61 (by decide) ?_
                exact ih1  (i + 1) m1 _ (by omega) (by omega) (by omega) (by omega) (by omega) (lv_sub hl [0, 2, 3, 4, 5, 6] rfl)
              ·
                have c_7 := mt (zle (x := iZ o) (y := iZ i) rfl rfl ⟨by omega, by omega⟩ ⟨by omega, by omega⟩).mpr c_7
                refine lv_iinc (v := iZ (m1 + 1)) (lv' := [(4, .int (iZ (m1 + 1))), (6, .int (iZ (gz f ((i * 6) + r)))), (5, .int (iZ i)), (3, .int (iZ (gz f ((o * 6) + r)))), (0, .ref h), (1, .int (iZ o)), (2, .int (iZ r))]) hx hb dX0_knownAhead_55 hl (k := 2) rfl (iZ_add m1 1) (by decide) rfl (fun ls hl => ?_)
                refine lv_iinc (v := iZ (i + 1)) (lv' := [(5, .int (iZ (i + 1))), (4, .int (iZ (m1 + 1))), (6, .int (iZ (gz f ((i * 6) + r)))), (3, .int (iZ (gz f ((o * 6) + r)))), (0, .ref h), (1, .int (iZ o)), (2, .int (iZ r))]) hx hb dX0_knownAhead_58 hl (k := 2) rfl (iZ_add i 1) (by decide) rfl (fun ls hl => ?_)
                refine lv_goto (tgt := 13) hx hb dX0_knownAhead_61 (by decide) ?_
                exact ih1  (i + 1) (m1 + 1) _ (by omega) (by omega) (by omega) (by omega) (by omega) (lv_sub hl [0, 1, 3, 4, 5, 6] rfl)
  exact HL1 22 0 0 _ (by omega) (by omega) (by omega) (by omega) (by omega) (lv_sub hl [0, 1, 2, 3, 4, 5] rfl)
set_option maxHeartbeats 4000000 in
set_option maxRecDepth 100000 in
theorem k_dress (l : Launch) (D : va_G) (k : Nat → ClassId) (h hw : Nat) (fs : List Value) (f0 : fs[0]? = some (.ref hw)) (f : Nat → Int32) (w : Int) (f4 : fs[4]? = some (.int (iZ w))) (hw0 : 0 ≤ w ∧ w ≤ 400) (r v : Int) : WD (σ := (Nat → Int32)) l yX0_dress cX0_dress 3 none 0 0 0 D k [.ref h, .int (iZ r), .int (iZ v)] [(h, .inr (0, fs)), (hw, .inl (k 1, 401, .inl f))] (fun _ => none) (fun _ => True) (fun g => [(h, .inr (0, fs)), (hw, .inl (k 1, 401, .inl g))]) := by
  refine MW (by decide) (Nat.le_of_ble_eq_true rfl) (fun p e s m below meth c ls A hx hb hml hr hlocks hin hts hown hKK hP hD hS hA hl => ?_)
  have hK := hKK.1
  have hl : lv_has ls 3 [(0, .ref h), (1, .int (iZ r)), (2, .int (iZ v))] := hl
  refine lv_aload_n hx hb dX0_dress_0 rfl (lv_at hl 0 rfl) ?_
  refine va_get (D := D) (ci := 0) (v := .ref hw) (C := RX0) (T := TX0) (N := 6) hx hb hts iX0 hown hK hP 0 rfl rfl 0 (by decide) (hts _ qf_X0_9) (fun _ h => h) f0 dX0_dress_1 ?_
  refine lv_aload_n hx hb dX0_dress_4 rfl (lv_at hl 0 rfl) ?_
  refine va_get (D := D) (ci := 0) (v := .int (iZ w)) (C := RX0) (T := TX0) (N := 6) hx hb hts iX0 hown hK hP 0 rfl rfl 4 (by decide) (hts _ qf_X0_24) (fun _ h => h) f4 dX0_dress_5 ?_
  refine lv_aload_n hx hb dX0_dress_8 rfl (lv_at hl 0 rfl) ?_
  refine va_get (D := D) (ci := 0) (v := .ref hw) (C := RX0) (T := TX0) (N := 6) hx hb hts iX0 hown hK hP 0 rfl rfl 0 (by decide) (hts _ qf_X0_9) (fun _ h => h) f0 dX0_dress_9 ?_
  refine lv_aload_n hx hb dX0_dress_12 rfl (lv_at hl 0 rfl) ?_
  refine va_get (D := D) (ci := 0) (v := .int (iZ w)) (C := RX0) (T := TX0) (N := 6) hx hb hts iX0 hown hK hP 0 rfl rfl 4 (by decide) (hts _ qf_X0_24) (fun _ h => h) f4 dX0_dress_13 ?_
  refine va_iald hx hb hK hP 1 1 rfl rfl (zin (e := w) (n := 401) ⟨by omega, by omega⟩ (by decide)) dX0_dress_16 ?_
  refine lv_topi (fun x_1 ex_1 => ?_)
  obtain rfl : x_1 = iZ (gz f w) := ex_1.trans (gz_eq ⟨by omega, by omega⟩)
  have h_2 := gz_rg f w
  refine lv_iconst (v := iZ 1) hx hb dX0_dress_17 (by decide) ?_
  refine lv_iload_n hx hb dX0_dress_18 rfl (lv_at hl 1 rfl) ?_
  refine lv_ishl hx hb dX0_dress_19 ?_
  refine lv_topi (fun x_4 ex_4 => ?_)
  obtain ⟨z_3, hz_3, hz_3a, hz_3b⟩ := i32_z x_4
  subst hz_3
  refine lv_iconst (v := iZ (-1)) hx hb dX0_dress_20 (by decide) ?_
  refine lv_ixor hx hb dX0_dress_21 ?_
  refine lv_topi (fun x_6 ex_6 => ?_)
  obtain ⟨z_5, hz_5, hz_5a, hz_5b⟩ := i32_z x_6
  subst hz_5
  refine lv_iand hx hb dX0_dress_22 ?_
  refine lv_topi (fun x_8 ex_8 => ?_)
  obtain ⟨z_7, hz_7, hz_7a, hz_7b⟩ := i32_z x_8
  subst hz_7
  refine lv_iload_n hx hb dX0_dress_23 rfl (lv_at hl 2 rfl) ?_
  refine lv_iload_n hx hb dX0_dress_24 rfl (lv_at hl 1 rfl) ?_
  refine lv_ishl hx hb dX0_dress_25 ?_
  refine lv_topi (fun x_10 ex_10 => ?_)
  obtain ⟨z_9, hz_9, hz_9a, hz_9b⟩ := i32_z x_10
  subst hz_9
  refine lv_ior hx hb dX0_dress_26 ?_
  refine lv_topi (fun x_12 ex_12 => ?_)
  obtain ⟨z_11, hz_11, hz_11a, hz_11b⟩ := i32_z x_12
  subst hz_11
  refine va_iast hx hb hK hP hD hS 1 1 rfl rfl (zin (e := w) (n := 401) ⟨by omega, by omega⟩ (by decide)) dX0_dress_27 (fun H locs hP hD hS => ?_)
  obtain ⟨f_13, hf_13⟩ : ∃ gg9, gg9 = upd f (iZ w).toNatClampNeg (iZ z_11) := ⟨_, rfl⟩
  rw [← hf_13] at hP hD
  exact EWv hx hb hr hlocks hS f_13 rfl trivial (hP.sub [0, 1] rfl) (hD.sub [0, 1] rfl rfl) dX0_dress_28
set_option maxHeartbeats 4000000 in
set_option maxRecDepth 100000 in
theorem k_turnRound (l : Launch) (D : va_G) (k : Nat → ClassId) (h hw : Nat) (fs : List Value) (f0 : fs[0]? = some (.ref hw)) (f : Nat → Int32) (w : Int) (f4 : fs[4]? = some (.int (iZ w))) (hw0 : 0 ≤ w ∧ w ≤ 400) (r : Int) : WD (σ := (Nat → Int32)) l yX0_turnRound cX0_turnRound 2 none 0 0 0 D k [.ref h, .int (iZ r)] [(h, .inr (0, fs)), (hw, .inl (k 1, 401, .inl f))] (fun _ => none) (fun _ => True) (fun g => [(h, .inr (0, fs)), (hw, .inl (k 1, 401, .inl g))]) := by
  refine MW (by decide) (Nat.le_of_ble_eq_true rfl) (fun p e s m below meth c ls A hx hb hml hr hlocks hin hts hown hKK hP hD hS hA hl => ?_)
  have hK := hKK.1
  have hl : lv_has ls 2 [(0, .ref h), (1, .int (iZ r))] := hl
  refine lv_aload_n hx hb dX0_turnRound_0 rfl (lv_at hl 0 rfl) ?_
  refine va_get (D := D) (ci := 0) (v := .ref hw) (C := RX0) (T := TX0) (N := 6) hx hb hts iX0 hown hK hP 0 rfl rfl 0 (by decide) (hts _ qf_X0_9) (fun _ h => h) f0 dX0_turnRound_1 ?_
  refine lv_aload_n hx hb dX0_turnRound_4 rfl (lv_at hl 0 rfl) ?_
  refine va_get (D := D) (ci := 0) (v := .int (iZ w)) (C := RX0) (T := TX0) (N := 6) hx hb hts iX0 hown hK hP 0 rfl rfl 4 (by decide) (hts _ qf_X0_24) (fun _ h => h) f4 dX0_turnRound_5 ?_
  refine lv_dup2_11 hx hb dX0_turnRound_8 rfl rfl ?_
  refine va_iald hx hb hK hP 1 1 rfl rfl (zin (e := w) (n := 401) ⟨by omega, by omega⟩ (by decide)) dX0_turnRound_9 ?_
  refine lv_topi (fun x_1 ex_1 => ?_)
  obtain rfl : x_1 = iZ (gz f w) := ex_1.trans (gz_eq ⟨by omega, by omega⟩)
  have h_2 := gz_rg f w
  refine lv_iconst (v := iZ 1) hx hb dX0_turnRound_10 (by decide) ?_
  refine lv_iload_n hx hb dX0_turnRound_11 rfl (lv_at hl 1 rfl) ?_
  refine lv_ishl hx hb dX0_turnRound_12 ?_
  refine lv_topi (fun x_4 ex_4 => ?_)
  obtain ⟨z_3, hz_3, hz_3a, hz_3b⟩ := i32_z x_4
  subst hz_3
  refine lv_ixor hx hb dX0_turnRound_13 ?_
  refine lv_topi (fun x_6 ex_6 => ?_)
  obtain ⟨z_5, hz_5, hz_5a, hz_5b⟩ := i32_z x_6
  subst hz_5
  refine va_iast hx hb hK hP hD hS 1 1 rfl rfl (zin (e := w) (n := 401) ⟨by omega, by omega⟩ (by decide)) dX0_turnRound_14 (fun H locs hP hD hS => ?_)
  obtain ⟨f_7, hf_7⟩ : ∃ gg9, gg9 = upd f (iZ w).toNatClampNeg (iZ z_5) := ⟨_, rfl⟩
  rw [← hf_7] at hP hD
  exact EWv hx hb hr hlocks hS f_7 rfl trivial (hP.sub [0, 1] rfl) (hD.sub [0, 1] rfl rfl) dX0_turnRound_15
set_option maxHeartbeats 4000000 in
set_option maxRecDepth 100000 in
theorem k_hasPlaces (l : Launch) (D : va_G) (k : Nat → ClassId) (h : Nat) (fs : List Value) (n : Int) (f2 : fs[2]? = some (.int (iZ n))) (hn : -1 ≤ n ∧ n ≤ 60) (a b : Int) (ha : 0 ≤ a ∧ a < 2147483648) (hb0 : 0 ≤ b ∧ b < 2147483648) : RP l yX7_hasPlaces cX7_hasPlaces 3 (some .boolean) 0 D k [.ref h, .int (iZ a), .int (iZ b)] [(h, .inr (7, fs))] (fun z => (z = 1 ∧ b ≤ n ∧ a ≤ n - b) ∨ (z = 0 ∧ ¬ (b ≤ n ∧ a ≤ n - b))) := by
  refine MRP (by decide) (Nat.le_of_ble_eq_true rfl) (fun p e s m below meth c ls hx hb hml hr hlocks hts hown hKK hP hl => ?_)
  have hK := hKK.1
  have hl : lv_has ls 3 [(0, .ref h), (1, .int (iZ a)), (2, .int (iZ b))] := hl
  refine lv_iload_n hx hb dX7_hasPlaces_0 rfl (lv_at hl 2 rfl) ?_
  refine lv_aload_n hx hb dX7_hasPlaces_1 rfl (lv_at hl 0 rfl) ?_
  refine va_get (D := D) (ci := 7) (v := .int (iZ n)) (C := RX7) (T := TX7) (N := 3) hx hb hts iX7 hown hK hP 0 rfl rfl 2 (by decide) (hts _ qf_X7_15) (fun _ h => h) f2 dX7_hasPlaces_2 ?_
  refine lv_icmp_gt (tgt := 22) hx hb dX7_hasPlaces_5 (by decide) (fun c_1 => ?_) (fun c_1 => ?_)
  ·
    have c_1 := (zlt (x := iZ n) (y := iZ b) rfl rfl ⟨by omega, by omega⟩ ⟨by omega, by omega⟩).mp c_1
    refine lv_iconst (v := iZ 0) hx hb dX7_hasPlaces_22 (by decide) ?_
    exact EPz hx hb hr hlocks (by omega) (by omega) dX7_hasPlaces_23
  ·
    have c_1 := mt (zlt (x := iZ n) (y := iZ b) rfl rfl ⟨by omega, by omega⟩ ⟨by omega, by omega⟩).mpr c_1
    refine lv_iload_n hx hb dX7_hasPlaces_8 rfl (lv_at hl 1 rfl) ?_
    refine lv_aload_n hx hb dX7_hasPlaces_9 rfl (lv_at hl 0 rfl) ?_
    refine va_get (D := D) (ci := 7) (v := .int (iZ n)) (C := RX7) (T := TX7) (N := 3) hx hb hts iX7 hown hK hP 0 rfl rfl 2 (by decide) (hts _ qf_X7_15) (fun _ h => h) f2 dX7_hasPlaces_10 ?_
    refine lv_iload_n hx hb dX7_hasPlaces_13 rfl (lv_at hl 2 rfl) ?_
    refine lv_isub hx hb dX7_hasPlaces_14 ?_
    refine lv_topi (fun x_2 ex_2 => ?_)
    obtain rfl : x_2 = iZ (n - b) := ex_2.trans (iZ_sub n b)
    refine lv_icmp_gt (tgt := 22) hx hb dX7_hasPlaces_15 (by decide) (fun c_3 => ?_) (fun c_3 => ?_)
    ·
      have c_3 := (zlt (x := iZ (n - b)) (y := iZ a) rfl rfl ⟨by omega, by omega⟩ ⟨by omega, by omega⟩).mp c_3
      refine lv_iconst (v := iZ 0) hx hb dX7_hasPlaces_22 (by decide) ?_
      exact EPz hx hb hr hlocks (by omega) (by omega) dX7_hasPlaces_23
    ·
      have c_3 := mt (zlt (x := iZ (n - b)) (y := iZ a) rfl rfl ⟨by omega, by omega⟩ ⟨by omega, by omega⟩).mpr c_3
      refine lv_iconst (v := iZ 1) hx hb dX7_hasPlaces_18 (by decide) ?_
      refine lv_goto (tgt := 23) hx hb dX7_hasPlaces_19 (by decide) ?_
      exact EPz hx hb hr hlocks (by omega) (by omega) dX7_hasPlaces_23
set_option maxHeartbeats 4000000 in
set_option maxRecDepth 100000 in
theorem k_put (l : Launch) (D : va_G) (k : Nat → ClassId) (h hg : Nat) (fs : List Value) (f0 : fs[0]? = some (.ref hg)) (g : Nat → Int64) (t : Int) (f1 : fs[1]? = some (.int (iZ t))) (ht : 0 ≤ t ∧ t ≤ 3) (a : Int) (ha : 0 ≤ a ∧ a < 60) (v : Int64) : WD (σ := (Nat → Int64)) l yX7_put cX7_put 4 none 0 0 0 D k [.ref h, .int (iZ a), .long v] [(h, .inr (7, fs)), (hg, .inl (k 2, 60, .inr (.inl g)))] (fun _ => none) (fun _ => True) (fun g2 => [(h, .inr (7, fs)), (hg, .inl (k 2, 60, .inr (.inl g2)))]) := by
  refine MW (by decide) (Nat.le_of_ble_eq_true rfl) (fun p e s m below meth c ls A hx hb hml hr hlocks hin hts hown hKK hP hD hS hA hl => ?_)
  have hK := hKK.1
  have hl : lv_has ls 4 [(0, .ref h), (1, .int (iZ a)), (2, .long v)] := hl
  refine lv_aload_n hx hb dX7_put_0 rfl (lv_at hl 0 rfl) ?_
  refine va_get (D := D) (ci := 7) (v := .int (iZ t)) (C := RX7) (T := TX7) (N := 3) hx hb hts iX7 hown hK hP 0 rfl rfl 1 (by decide) (hts _ qf_X7_19) (fun _ h => h) f1 dX7_put_1 ?_
  refine lv_if_ne (tgt := 20) hx hb dX7_put_4 (by decide) (fun c_1 => ?_) (fun c_1 => ?_)
  ·
    have c_1 := mt (zeq (x := iZ t) (y := iZ 0) rfl rfl ⟨by omega, by omega⟩ ⟨by omega, by omega⟩).mpr c_1
    refine lv_aload_n hx hb dX7_put_20 rfl (lv_at hl 0 rfl) ?_
    refine va_get (D := D) (ci := 7) (v := .int (iZ t)) (C := RX7) (T := TX7) (N := 3) hx hb hts iX7 hown hK hP 0 rfl rfl 1 (by decide) (hts _ qf_X7_19) (fun _ h => h) f1 dX7_put_21 ?_
    refine lv_iconst (v := iZ 1) hx hb dX7_put_24 (by decide) ?_
    refine lv_icmp_ne (tgt := 41) hx hb dX7_put_25 (by decide) (fun c_2 => ?_) (fun c_2 => ?_)
    ·
      have c_2 := mt (zeq (x := iZ t) (y := iZ 1) rfl rfl ⟨by omega, by omega⟩ ⟨by omega, by omega⟩).mpr c_2
      refine lv_aload_n hx hb dX7_put_41 rfl (lv_at hl 0 rfl) ?_
      refine va_get (D := D) (ci := 7) (v := .int (iZ t)) (C := RX7) (T := TX7) (N := 3) hx hb hts iX7 hown hK hP 0 rfl rfl 1 (by decide) (hts _ qf_X7_19) (fun _ h => h) f1 dX7_put_42 ?_
      refine lv_iconst (v := iZ 2) hx hb dX7_put_45 (by decide) ?_
      refine lv_icmp_ne (tgt := 61) hx hb dX7_put_46 (by decide) (fun c_3 => ?_) (fun c_3 => ?_)
      ·
        have c_3 := mt (zeq (x := iZ t) (y := iZ 2) rfl rfl ⟨by omega, by omega⟩ ⟨by omega, by omega⟩).mpr c_3
        refine lv_aload_n hx hb dX7_put_61 rfl (lv_at hl 0 rfl) ?_
        refine va_get (D := D) (ci := 7) (v := .ref hg) (C := RX7) (T := TX7) (N := 3) hx hb hts iX7 hown hK hP 0 rfl rfl 0 (by decide) (hts _ qf_X7_9) (fun _ h => h) f0 dX7_put_62 ?_
        refine lv_iload_n hx hb dX7_put_65 rfl (lv_at hl 1 rfl) ?_
        refine lv_lload_n hx hb dX7_put_66 rfl (lv_at hl 2 rfl) ?_
        refine va_last hx hb hK hP hD hS 1 2 rfl rfl (zin (e := a) (n := 60) ⟨by omega, by omega⟩ (by decide)) dX7_put_67 (fun H locs hP hD hS => ?_)
        obtain ⟨f_4, hf_4⟩ : ∃ gg9, gg9 = vp_updL g (iZ a).toNatClampNeg v := ⟨_, rfl⟩
        rw [← hf_4] at hP hD
        exact EWv hx hb hr hlocks hS f_4 rfl trivial (hP.sub [0, 1] rfl) (hD.sub [0, 1] rfl rfl) dX7_put_68
      ·
        have c_3 := (zeq (x := iZ t) (y := iZ 2) rfl rfl ⟨by omega, by omega⟩ ⟨by omega, by omega⟩).mp c_3
        refine lv_aload_n hx hb dX7_put_49 rfl (lv_at hl 0 rfl) ?_
        refine va_get (D := D) (ci := 7) (v := .ref hg) (C := RX7) (T := TX7) (N := 3) hx hb hts iX7 hown hK hP 0 rfl rfl 0 (by decide) (hts _ qf_X7_9) (fun _ h => h) f0 dX7_put_50 ?_
        refine lv_iload_n hx hb dX7_put_53 rfl (lv_at hl 1 rfl) ?_
        refine lv_lload_n hx hb dX7_put_54 rfl (lv_at hl 2 rfl) ?_
        refine lv_l2i (v := _) hx hb dX7_put_55 rfl ?_
        refine lv_topi (fun x_6 ex_6 => ?_)
        obtain ⟨z_5, hz_5, hz_5a, hz_5b⟩ := i32_z x_6
        subst hz_5
        refine lv_i2l (v := (iZ z_5).toInt64) hx hb dX7_put_56 rfl ?_
        refine va_last hx hb hK hP hD hS 1 2 rfl rfl (zin (e := a) (n := 60) ⟨by omega, by omega⟩ (by decide)) dX7_put_57 (fun H locs hP hD hS => ?_)
        obtain ⟨f_7, hf_7⟩ : ∃ gg9, gg9 = vp_updL g (iZ a).toNatClampNeg ((iZ z_5).toInt64) := ⟨_, rfl⟩
        rw [← hf_7] at hP hD
        refine lv_goto (tgt := 68) hx hb dX7_put_58 (by decide) ?_
        exact EWv hx hb hr hlocks hS f_7 rfl trivial (hP.sub [0, 1] rfl) (hD.sub [0, 1] rfl rfl) dX7_put_68
    ·
      have c_2 := (zeq (x := iZ t) (y := iZ 1) rfl rfl ⟨by omega, by omega⟩ ⟨by omega, by omega⟩).mp c_2
      refine lv_aload_n hx hb dX7_put_28 rfl (lv_at hl 0 rfl) ?_
      refine va_get (D := D) (ci := 7) (v := .ref hg) (C := RX7) (T := TX7) (N := 3) hx hb hts iX7 hown hK hP 0 rfl rfl 0 (by decide) (hts _ qf_X7_9) (fun _ h => h) f0 dX7_put_29 ?_
      refine lv_iload_n hx hb dX7_put_32 rfl (lv_at hl 1 rfl) ?_
      refine lv_lload_n hx hb dX7_put_33 rfl (lv_at hl 2 rfl) ?_
      refine lv_l2i (v := _) hx hb dX7_put_34 rfl ?_
      refine lv_topi (fun x_9 ex_9 => ?_)
      obtain ⟨z_8, hz_8, hz_8a, hz_8b⟩ := i32_z x_9
      subst hz_8
      refine lv_i2s (v := _) hx hb dX7_put_35 rfl ?_
      refine lv_topi (fun x_11 ex_11 => ?_)
      obtain ⟨z_10, hz_10, hz_10a, hz_10b⟩ := i32_z x_11
      subst hz_10
      refine lv_i2l (v := (iZ z_10).toInt64) hx hb dX7_put_36 rfl ?_
      refine va_last hx hb hK hP hD hS 1 2 rfl rfl (zin (e := a) (n := 60) ⟨by omega, by omega⟩ (by decide)) dX7_put_37 (fun H locs hP hD hS => ?_)
      obtain ⟨f_12, hf_12⟩ : ∃ gg9, gg9 = vp_updL g (iZ a).toNatClampNeg ((iZ z_10).toInt64) := ⟨_, rfl⟩
      rw [← hf_12] at hP hD
      refine lv_goto (tgt := 68) hx hb dX7_put_38 (by decide) ?_
      exact EWv hx hb hr hlocks hS f_12 rfl trivial (hP.sub [0, 1] rfl) (hD.sub [0, 1] rfl rfl) dX7_put_68
  ·
    have c_1 := (zeq (x := iZ t) (y := iZ 0) rfl rfl ⟨by omega, by omega⟩ ⟨by omega, by omega⟩).mp c_1
    refine lv_aload_n hx hb dX7_put_7 rfl (lv_at hl 0 rfl) ?_
    refine va_get (D := D) (ci := 7) (v := .ref hg) (C := RX7) (T := TX7) (N := 3) hx hb hts iX7 hown hK hP 0 rfl rfl 0 (by decide) (hts _ qf_X7_9) (fun _ h => h) f0 dX7_put_8 ?_
    refine lv_iload_n hx hb dX7_put_11 rfl (lv_at hl 1 rfl) ?_
    refine lv_lload_n hx hb dX7_put_12 rfl (lv_at hl 2 rfl) ?_
    refine lv_l2i (v := _) hx hb dX7_put_13 rfl ?_
    refine lv_topi (fun x_14 ex_14 => ?_)
    obtain ⟨z_13, hz_13, hz_13a, hz_13b⟩ := i32_z x_14
    subst hz_13
    refine lv_i2b (v := _) hx hb dX7_put_14 rfl ?_
    refine lv_topi (fun x_16 ex_16 => ?_)
    obtain ⟨z_15, hz_15, hz_15a, hz_15b⟩ := i32_z x_16
    subst hz_15
    refine lv_i2l (v := (iZ z_15).toInt64) hx hb dX7_put_15 rfl ?_
    refine va_last hx hb hK hP hD hS 1 2 rfl rfl (zin (e := a) (n := 60) ⟨by omega, by omega⟩ (by decide)) dX7_put_16 (fun H locs hP hD hS => ?_)
    obtain ⟨f_17, hf_17⟩ : ∃ gg9, gg9 = vp_updL g (iZ a).toNatClampNeg ((iZ z_15).toInt64) := ⟨_, rfl⟩
    rw [← hf_17] at hP hD
    refine lv_goto (tgt := 68) hx hb dX7_put_17 (by decide) ?_
    exact EWv hx hb hr hlocks hS f_17 rfl trivial (hP.sub [0, 1] rfl) (hD.sub [0, 1] rfl rfl) dX7_put_68
set_option maxHeartbeats 4000000 in
set_option maxRecDepth 100000 in
theorem k_holdsWithin (l : Launch) (D : va_G) (k : Nat → ClassId) (h hg : Nat) (fs : List Value) (f0 : fs[0]? = some (.ref hg)) (g : Nat → Int64) (n w : Int) (hn : 0 ≤ n ∧ n ≤ 60) (hw : 0 ≤ w ∧ w ≤ 1000) : RP l yX7_holdsWithin cX7_holdsWithin 4 (some .boolean) 0 D k [.ref h, .int (iZ n), .int (iZ w)] [(h, .inr (7, fs)), (hg, .inl (k 2, 60, .inr (.inl g)))] (fun z => z = 0 ∨ z = 1) := by
  refine MRP (by decide) (Nat.le_of_ble_eq_true rfl) (fun p e s m below meth c ls hx hb hml hr hlocks hts hown hKK hP hl => ?_)
  have hK := hKK.1
  have hl : lv_has ls 4 [(0, .ref h), (1, .int (iZ n)), (2, .int (iZ w))] := hl
  refine lv_iconst (v := iZ 0) hx hb dX7_holdsWithin_0 (by decide) ?_
  refine lv_istore_n (lv' := [(3, .int (iZ 0)), (0, .ref h), (1, .int (iZ n)), (2, .int (iZ w))]) hx hb dX7_holdsWithin_1 rfl hl (by decide) rfl (fun ls hl => ?_)
  have HL1 : ∀ (fu : Nat) (i : Int) (ls : Array Slot), (n + 1 - i) < (fu : Int) → 0 ≤ i → i ≤ n → lv_has ls 4 [(3, .int (iZ i)), (0, .ref h), (1, .int (iZ n)), (2, .int (iZ w))] → W p l e (rj 0 0 0) s m [.ref h, .int (iZ n), .int (iZ w)].toArray below meth c s.heap [] 0 0 (MQ below (QcP (fun z => z = 0 ∨ z = 1)) [.ref h, .int (iZ n), .int (iZ w)].toArray s 0 0 (fun _ => False)) (F0 m 2 ls []) := by
    intro fu
    induction fu with
    | zero => intro i ls hμ1 hi1 hi2 hl; exact absurd hμ1 (by omega)
    | succ fu ih1 =>
      intro i ls hμ1 hi1 hi2 hl
      refine lv_iload_n hx hb dX7_holdsWithin_2 rfl (lv_at hl 0 rfl) ?_
      refine lv_iload_n hx hb dX7_holdsWithin_3 rfl (lv_at hl 2 rfl) ?_
      refine lv_icmp_ge (tgt := 38) hx hb dX7_holdsWithin_4 (by decide) (fun c_1 => ?_) (fun c_1 => ?_)
      ·
        have c_1 := (zle (x := iZ n) (y := iZ i) rfl rfl ⟨by omega, by omega⟩ ⟨by omega, by omega⟩).mp c_1
        refine lv_iconst (v := iZ 1) hx hb dX7_holdsWithin_38 (by decide) ?_
        exact EPz hx hb hr hlocks (by omega) (by omega) dX7_holdsWithin_39
      ·
        have c_1 := mt (zle (x := iZ n) (y := iZ i) rfl rfl ⟨by omega, by omega⟩ ⟨by omega, by omega⟩).mpr c_1
        refine lv_aload_n hx hb dX7_holdsWithin_7 rfl (lv_at hl 1 rfl) ?_
        refine va_get (D := D) (ci := 7) (v := .ref hg) (C := RX7) (T := TX7) (N := 3) hx hb hts iX7 hown hK hP 0 rfl rfl 0 (by decide) (hts _ qf_X7_9) (fun _ h => h) f0 dX7_holdsWithin_8 ?_
        refine lv_iload_n hx hb dX7_holdsWithin_11 rfl (lv_at hl 0 rfl) ?_
        refine va_lald hx hb hK hP 1 2 rfl rfl (zin (e := i) (n := 60) ⟨by omega, by omega⟩ (by decide)) dX7_holdsWithin_12 ?_
        refine lv_topl (fun y_2 ey_2 => ?_)
        refine lv_lconst (v := 0) hx hb dX7_holdsWithin_13 rfl ?_
        refine W.lcmp hx hb dX7_holdsWithin_14 ?_
        refine lv_if_lt (tgt := 30) hx hb dX7_holdsWithin_15 (by decide) (fun c_3 => ?_) (fun c_3 => ?_)
        ·
          refine lv_iconst (v := iZ 0) hx hb dX7_holdsWithin_30 (by decide) ?_
          exact EPz hx hb hr hlocks (by omega) (by omega) dX7_holdsWithin_31
        ·
          refine lv_aload_n hx hb dX7_holdsWithin_18 rfl (lv_at hl 1 rfl) ?_
          refine va_get (D := D) (ci := 7) (v := .ref hg) (C := RX7) (T := TX7) (N := 3) hx hb hts iX7 hown hK hP 0 rfl rfl 0 (by decide) (hts _ qf_X7_9) (fun _ h => h) f0 dX7_holdsWithin_19 ?_
          refine lv_iload_n hx hb dX7_holdsWithin_22 rfl (lv_at hl 0 rfl) ?_
          refine va_lald hx hb hK hP 1 2 rfl rfl (zin (e := i) (n := 60) ⟨by omega, by omega⟩ (by decide)) dX7_holdsWithin_23 ?_
          refine lv_topl (fun y_4 ey_4 => ?_)
          refine lv_iload_n hx hb dX7_holdsWithin_24 rfl (lv_at hl 3 rfl) ?_
          refine lv_i2l (v := (iZ w).toInt64) hx hb dX7_holdsWithin_25 rfl ?_
          refine W.lcmp hx hb dX7_holdsWithin_26 ?_
          refine lv_if_le (tgt := 32) hx hb dX7_holdsWithin_27 (by decide) (fun c_5 => ?_) (fun c_5 => ?_)
          ·
            refine lv_iinc (v := iZ (i + 1)) (lv' := [(3, .int (iZ (i + 1))), (0, .ref h), (1, .int (iZ n)), (2, .int (iZ w))]) hx hb dX7_holdsWithin_32 hl (k := 0) rfl (iZ_add i 1) (by decide) rfl (fun ls hl => ?_)
            refine lv_goto (tgt := 2) hx hb dX7_holdsWithin_35 (by decide) ?_
            exact ih1  (i + 1) _ (by omega) (by omega) (by omega) (lv_sub hl [0, 1, 2, 3] rfl)
          ·
            refine lv_iconst (v := iZ 0) hx hb dX7_holdsWithin_30 (by decide) ?_
            exact EPz hx hb hr hlocks (by omega) (by omega) dX7_holdsWithin_31
  exact HL1 62 0 _ (by omega) (by omega) (by omega) (lv_sub hl [0, 1, 2, 3] rfl)
set_option maxHeartbeats 4000000 in
set_option maxRecDepth 100000 in
theorem k_addRow (l : Launch) (D : va_G) (k : Nat → ClassId) (h hg a1 a2 a3 a4 : Nat) (g : Nat → Int32) (t st n x : Int) (hn : 0 ≤ n ∧ n < 60) : WD (σ := Unit) l yX9_addRow cX9_addRow 3 (some .int) 0 0 0 D k [.ref h, .int (iZ x)] [(h, .inr (9, [.ref hg, .ref a1, .ref a2, .ref a3, .ref a4, .int (iZ t), .int (iZ st), .int (iZ n)])), (hg, .inl (k 1, 60, .inl g))] (fun _ => some (.int (iZ n))) (fun _ => True) (fun _ => [(h, .inr (9, [.ref hg, .ref a1, .ref a2, .ref a3, .ref a4, .int (iZ t), .int (iZ st), .int (iZ (n + 1))])), (hg, .inl (k 1, 60, .inl (upd g (iZ n).toNatClampNeg (iZ x))))]) := by
  refine MW (by decide) (Nat.le_of_ble_eq_true rfl) (fun p e s m below meth c ls A hx hb hml hr hlocks hin hts hown hKK hP hD hS hA hl => ?_)
  have hK := hKK.1
  have hl : lv_has ls 3 [(0, .ref h), (1, .int (iZ x))] := hl
  refine lv_aload_n hx hb dX9_addRow_0 rfl (lv_at hl 0 rfl) ?_
  refine va_get (D := D) (ci := 9) (v := .int (iZ n)) (C := RX9) (T := TX9) (N := 8) hx hb hts iX9 hown hK hP 0 rfl rfl 7 (by decide) (hts _ qf_X9_35) (fun _ h => h) rfl dX9_addRow_1 ?_
  refine lv_istore_n (lv' := [(2, .int (iZ n)), (0, .ref h), (1, .int (iZ x))]) hx hb dX9_addRow_4 rfl hl (by decide) rfl (fun ls hl => ?_)
  refine lv_aload_n hx hb dX9_addRow_5 rfl (lv_at hl 1 rfl) ?_
  refine va_get (D := D) (ci := 9) (v := .ref hg) (C := RX9) (T := TX9) (N := 8) hx hb hts iX9 hown hK hP 0 rfl rfl 0 (by decide) (hts _ qf_X9_11) (fun _ h => h) rfl dX9_addRow_6 ?_
  refine lv_iload_n hx hb dX9_addRow_9 rfl (lv_at hl 0 rfl) ?_
  refine lv_iload_n hx hb dX9_addRow_10 rfl (lv_at hl 2 rfl) ?_
  refine va_iast hx hb hK hP hD hS 1 1 rfl rfl (zin (e := n) (n := 60) ⟨by omega, by omega⟩ (by decide)) dX9_addRow_11 (fun H locs hP hD hS => ?_)
  obtain ⟨f_1, hf_1⟩ : ∃ gg9, gg9 = upd g (iZ n).toNatClampNeg (iZ x) := ⟨_, rfl⟩
  rw [← hf_1] at hP hD
  refine lv_aload_n hx hb dX9_addRow_12 rfl (lv_at hl 1 rfl) ?_
  refine lv_dup hx hb dX9_addRow_13 rfl ?_
  refine va_get (D := D) (ci := 9) (v := .int (iZ n)) (C := RX9) (T := TX9) (N := 8) hx hb hts iX9 hown hK hP 0 rfl rfl 7 (by decide) (hts _ qf_X9_35) (fun _ h => h) rfl dX9_addRow_14 ?_
  refine lv_iconst (v := iZ 1) hx hb dX9_addRow_17 (by decide) ?_
  refine lv_iadd hx hb dX9_addRow_18 ?_
  refine lv_topi (fun x_2 ex_2 => ?_)
  obtain rfl : x_2 = iZ (n + 1) := ex_2.trans (iZ_add n 1)
  refine va_put (D := D) (ci := 9) (v := .int (iZ (n + 1))) (ty := .int) (C := RX9) (T := TX9) (N := 8) hx hb hts iX9 tyX9 tyX9_ok nmX9 hown hK hP hD hS 0 rfl rfl 7 (by decide) (hts _ qf_X9_35) (fun _ h => h) rfl (by decide +kernel) rfl rfl (Nat.le_of_ble_eq_true rfl) dX9_addRow_19 (fun H locs hP hD hS => ?_)
  refine lv_iload_n hx hb dX9_addRow_22 rfl (lv_at hl 0 rfl) ?_
  subst hf_1
  exact EWi hx hb hr hlocks hS () rfl trivial hP hD dX9_addRow_23
