/-- light between two rocks in two weeks -/
def lt (f : Nat → Int32) (a w b t : Int) : Int := ap f a (hd f a w) b (hd f b t)
theorem lt_rg {f : Nat → Int32} {n a w b t : Int} (hx0 : FXI f n) (ha : 0 ≤ a ∧ a < n) (hb : 0 ≤ b ∧ b < n) : 0 ≤ lt f a w b t ∧ lt f a w b t ≤ 20 := ap_rg hx0 ha hb (hd_rg f a w) (hd_rg f b t)
set_option maxHeartbeats 4000000 in
set_option maxRecDepth 100000 in
theorem k_light (l : Launch) (D : va_G) (k : Nat → ClassId) (h hf : Nat) (fs : List Value) (f1 : fs[1]? = some (.ref hf)) (f : Nat → Int32) (n : Int) (hn : n ≤ 6) (hx0 : FXI f n) (a w b t : Int) (ha : 0 ≤ a ∧ a < n) (hb0 : 0 ≤ b ∧ b < n) (hw : 0 ≤ w ∧ w ≤ 1000) (ht0 : 0 ≤ t ∧ t ≤ 1000) : RD l yX5_lightBetween cX5_lightBetween 5 (some .int) 1 D k [.ref h, .int (iZ a), .int (iZ w), .int (iZ b), .int (iZ t)] [(h, .inr (5, fs)), (hf, .inl (k 1, 36, .inl f))] (iZ (lt f a w b t)) := by
  refine MR (by decide) (Nat.le_of_ble_eq_true rfl) (fun p e s m below meth c ls hx hb hml hr hlocks hts hown hKK hP hl => ?_)
  have hK := hKK.1
  have hl : lv_has ls 5 [(0, .ref h), (1, .int (iZ a)), (2, .int (iZ w)), (3, .int (iZ b)), (4, .int (iZ t))] := hl
  refine lv_aload_n hx hb dX5_lightBetween_0 rfl (lv_at hl 0 rfl) ?_
  refine lv_iload_n hx hb dX5_lightBetween_1 rfl (lv_at hl 1 rfl) ?_
  refine lv_aload_n hx hb dX5_lightBetween_2 rfl (lv_at hl 0 rfl) ?_
  refine lv_iload_n hx hb dX5_lightBetween_3 rfl (lv_at hl 1 rfl) ?_
  refine lv_iload_n hx hb dX5_lightBetween_4 rfl (lv_at hl 2 rfl) ?_
  refine CRV (As := [.int (iZ a), .int (iZ w)]) (rest := [.int (iZ a), .ref h]) hx hb hml hown hts hKK hP (k_heading l D k h hf fs f1 f n hn hx0 a w ⟨by omega, by omega⟩ ⟨by omega, by omega⟩) ci_X5_heading qm_X5_47 ⟨Nat.le_of_ble_eq_true rfl, Nat.le_of_ble_eq_true rfl⟩ ⟨Nat.le_of_ble_eq_true rfl, Nat.le_of_ble_eq_true rfl⟩ 0 rfl rfl rfl hl.1 rfl (Nat.le_of_ble_eq_true rfl) dX5_lightBetween_5 ?_
  have hh_h_1 := hd_rg f a w
  refine lv_iload_n hx hb dX5_lightBetween_8 rfl (lv_at hl 3 rfl) ?_
  refine lv_aload_n hx hb dX5_lightBetween_9 rfl (lv_at hl 0 rfl) ?_
  refine lv_iload_n hx hb dX5_lightBetween_10 rfl (lv_at hl 3 rfl) ?_
  refine lv_iload hx hb dX5_lightBetween_11 (lv_at hl 4 rfl) ?_
  refine CRV (As := [.int (iZ b), .int (iZ t)]) (rest := [.int (iZ b), .int (iZ (hd f a w)), .int (iZ a), .ref h]) hx hb hml hown hts hKK hP (k_heading l D k h hf fs f1 f n hn hx0 b t ⟨by omega, by omega⟩ ⟨by omega, by omega⟩) ci_X5_heading qm_X5_47 ⟨Nat.le_of_ble_eq_true rfl, Nat.le_of_ble_eq_true rfl⟩ ⟨Nat.le_of_ble_eq_true rfl, Nat.le_of_ble_eq_true rfl⟩ 0 rfl rfl rfl hl.1 rfl (Nat.le_of_ble_eq_true rfl) dX5_lightBetween_13 ?_
  have hh_h_2 := hd_rg f b t
  refine CRV (As := [.int (iZ a), .int (iZ (hd f a w)), .int (iZ b), .int (iZ (hd f b t))]) (rest := []) hx hb hml hown hts hKK hP (k_apart l D k h hf fs f1 f n hn hx0 a (hd f a w) b (hd f b t) ⟨by omega, by omega⟩ ⟨by omega, by omega⟩ ⟨by omega, by omega⟩ ⟨by omega, by omega⟩) ci_X5_apart qm_X5_51 ⟨Nat.le_of_ble_eq_true rfl, Nat.le_of_ble_eq_true rfl⟩ ⟨Nat.le_of_ble_eq_true rfl, Nat.le_of_ble_eq_true rfl⟩ 0 rfl rfl rfl hl.1 rfl (Nat.le_of_ble_eq_true rfl) dX5_lightBetween_16 ?_
  have ha_h_3 := ap_rg (h := (hd f a w)) (g := (hd f b t)) hx0 (a := a) (b := b) ⟨by omega, by omega⟩ ⟨by omega, by omega⟩ ⟨by omega, by omega⟩ ⟨by omega, by omega⟩
  exact ERi hx hb hr hlocks rfl dX5_lightBetween_19
/-- when a ship is there: the first week by which it has come so far -/
def isLd (f : Nat → Int32) (a w b t : Int) : Prop := if a = b then t = w else (w + 10 ≤ t ∧ t ≤ w + 200 ∧ 10 * lt f a w b t ≤ t - w ∧ ∀ s : Int, w + 10 ≤ s → s < t → ¬ 10 * lt f a w b s ≤ s - w)
set_option maxHeartbeats 4000000 in
set_option maxRecDepth 100000 in
theorem k_landing (l : Launch) (D : va_G) (k : Nat → ClassId) (h hf : Nat) (fs : List Value) (f1 : fs[1]? = some (.ref hf)) (f : Nat → Int32) (n : Int) (hn : n ≤ 6) (hx0 : FXI f n) (a w b : Int) (ha : 0 ≤ a ∧ a < n) (hb0 : 0 ≤ b ∧ b < n) (hw : 0 ≤ w ∧ w ≤ 700) : RP l yX5_landing cX5_landing 7 (some .int) 1 D k [.ref h, .int (iZ a), .int (iZ w), .int (iZ b)] [(h, .inr (5, fs)), (hf, .inl (k 1, 36, .inl f))] (fun z => isLd f a w b z) := by
  refine MRP (by decide) (Nat.le_of_ble_eq_true rfl) (fun p e s m below meth c ls hx hb hml hr hlocks hts hown hKK hP hl => ?_)
  have hK := hKK.1
  have hl : lv_has ls 7 [(0, .ref h), (1, .int (iZ a)), (2, .int (iZ w)), (3, .int (iZ b))] := hl
  refine lv_iload_n hx hb dX5_landing_0 rfl (lv_at hl 1 rfl) ?_
  refine lv_iload_n hx hb dX5_landing_1 rfl (lv_at hl 3 rfl) ?_
  refine lv_icmp_ne (tgt := 7) hx hb dX5_landing_2 (by decide) (fun c_1 => ?_) (fun c_1 => ?_)
  ·
    have c_1 := mt (zeq (x := iZ a) (y := iZ b) rfl rfl ⟨by omega, by omega⟩ ⟨by omega, by omega⟩).mpr c_1
    refine lv_aload_n hx hb dX5_landing_7 rfl (lv_at hl 0 rfl) ?_
    refine lv_iload_n hx hb dX5_landing_8 rfl (lv_at hl 1 rfl) ?_
    refine lv_iload_n hx hb dX5_landing_9 rfl (lv_at hl 2 rfl) ?_
    refine CRV (As := [.int (iZ a), .int (iZ w)]) (rest := []) hx hb hml hown hts hKK hP (k_heading l D k h hf fs f1 f n hn hx0 a w ⟨by omega, by omega⟩ ⟨by omega, by omega⟩) ci_X5_heading qm_X5_47 ⟨Nat.le_of_ble_eq_true rfl, Nat.le_of_ble_eq_true rfl⟩ ⟨Nat.le_of_ble_eq_true rfl, Nat.le_of_ble_eq_true rfl⟩ 0 rfl rfl rfl hl.1 rfl (Nat.le_of_ble_eq_true rfl) dX5_landing_10 ?_
    have hh_h_2 := hd_rg f a w
    refine lv_istore (lv' := [(4, .int (iZ (hd f a w))), (0, .ref h), (1, .int (iZ a)), (2, .int (iZ w)), (3, .int (iZ b))]) hx hb dX5_landing_13 hl (by decide) rfl (fun ls hl => ?_)
    refine lv_iload_n hx hb dX5_landing_15 rfl (lv_at hl 3 rfl) ?_
    refine lv_sipush (v := iZ 200) hx hb dX5_landing_16 (by decide) ?_
    refine lv_iadd hx hb dX5_landing_19 ?_
    refine lv_topi (fun x_3 ex_3 => ?_)
    obtain rfl : x_3 = iZ (w + 200) := ex_3.trans (iZ_add w 200)
    refine lv_istore (lv' := [(5, .int (iZ (w + 200))), (4, .int (iZ (hd f a w))), (0, .ref h), (1, .int (iZ a)), (2, .int (iZ w)), (3, .int (iZ b))]) hx hb dX5_landing_20 hl (by decide) rfl (fun ls hl => ?_)
    refine lv_iload_n hx hb dX5_landing_22 rfl (lv_at hl 4 rfl) ?_
    refine lv_bipush (v := iZ 10) hx hb dX5_landing_23 (by decide) ?_
    refine lv_iadd hx hb dX5_landing_25 ?_
    refine lv_topi (fun x_4 ex_4 => ?_)
    obtain rfl : x_4 = iZ (w + 10) := ex_4.trans (iZ_add w 10)
    refine lv_istore (lv' := [(6, .int (iZ (w + 10))), (5, .int (iZ (w + 200))), (4, .int (iZ (hd f a w))), (0, .ref h), (1, .int (iZ a)), (2, .int (iZ w)), (3, .int (iZ b))]) hx hb dX5_landing_26 hl (by decide) rfl (fun ls hl => ?_)
    have HL1 : ∀ (fu : Nat) (i : Int) (ls : Array Slot), (w + 201 - i) < (fu : Int) → w + 10 ≤ i → i ≤ w + 200 → (∀ t : Int, w + 10 ≤ t → t < i → ¬ 10 * lt f a w b t ≤ t - w) → lv_has ls 7 [(6, .int (iZ i)), (5, .int (iZ (w + 200))), (4, .int (iZ (hd f a w))), (0, .ref h), (1, .int (iZ a)), (2, .int (iZ w)), (3, .int (iZ b))] → W p l e (rj 1 0 0) s m [.ref h, .int (iZ a), .int (iZ w), .int (iZ b)].toArray below meth c s.heap [] 0 0 (MQ below (QcP (fun z => isLd f a w b z)) [.ref h, .int (iZ a), .int (iZ w), .int (iZ b)].toArray s 0 0 (fun _ => False)) (F0 m 28 ls []) := by
      intro fu
      induction fu with
      | zero => intro i ls hμ1 hi1 hi2 hi3 hl; exact absurd hμ1 (by omega)
      | succ fu ih1 =>
        intro i ls hμ1 hi1 hi2 hi3 hl
        refine lv_iload hx hb dX5_landing_28 (lv_at hl 0 rfl) ?_
        refine lv_iload hx hb dX5_landing_30 (lv_at hl 1 rfl) ?_
        refine lv_icmp_ge (tgt := 69) hx hb dX5_landing_32 (by decide) (fun c_5 => ?_) (fun c_5 => ?_)
        ·
          have c_5 := (zle (x := iZ (w + 200)) (y := iZ i) rfl rfl ⟨by omega, by omega⟩ ⟨by omega, by omega⟩).mp c_5
          refine lv_iload hx hb dX5_landing_69 (lv_at hl 1 rfl) ?_
          exact EPi hx hb hr hlocks (by obtain rfl : i = w + 200 := (by omega); unfold isLd; rw [if_neg c_1]; have := lt_rg (w := w) (t := (w + 200)) hx0 ha hb0; exact ⟨by omega, by omega, by omega, hi3⟩) dX5_landing_71
        ·
          have c_5 := mt (zle (x := iZ (w + 200)) (y := iZ i) rfl rfl ⟨by omega, by omega⟩ ⟨by omega, by omega⟩).mpr c_5
          refine lv_bipush (v := iZ 10) hx hb dX5_landing_35 (by decide) ?_
          refine lv_aload_n hx hb dX5_landing_37 rfl (lv_at hl 3 rfl) ?_
          refine lv_iload_n hx hb dX5_landing_38 rfl (lv_at hl 4 rfl) ?_
          refine lv_iload hx hb dX5_landing_39 (lv_at hl 2 rfl) ?_
          refine lv_iload_n hx hb dX5_landing_41 rfl (lv_at hl 6 rfl) ?_
          refine lv_aload_n hx hb dX5_landing_42 rfl (lv_at hl 3 rfl) ?_
          refine lv_iload_n hx hb dX5_landing_43 rfl (lv_at hl 6 rfl) ?_
          refine lv_iload hx hb dX5_landing_44 (lv_at hl 0 rfl) ?_
          refine CRV (As := [.int (iZ b), .int (iZ i)]) (rest := [.int (iZ b), .int (iZ (hd f a w)), .int (iZ a), .ref h, .int (iZ 10)]) hx hb hml hown hts hKK hP (k_heading l D k h hf fs f1 f n hn hx0 b i ⟨by omega, by omega⟩ ⟨by omega, by omega⟩) ci_X5_heading qm_X5_47 ⟨Nat.le_of_ble_eq_true rfl, Nat.le_of_ble_eq_true rfl⟩ ⟨Nat.le_of_ble_eq_true rfl, Nat.le_of_ble_eq_true rfl⟩ 0 rfl rfl rfl hl.1 rfl (Nat.le_of_ble_eq_true rfl) dX5_landing_46 ?_
          have hh_h_6 := hd_rg f b i
          refine CRV (As := [.int (iZ a), .int (iZ (hd f a w)), .int (iZ b), .int (iZ (hd f b i))]) (rest := [.int (iZ 10)]) hx hb hml hown hts hKK hP (k_apart l D k h hf fs f1 f n hn hx0 a (hd f a w) b (hd f b i) ⟨by omega, by omega⟩ ⟨by omega, by omega⟩ ⟨by omega, by omega⟩ ⟨by omega, by omega⟩) ci_X5_apart qm_X5_51 ⟨Nat.le_of_ble_eq_true rfl, Nat.le_of_ble_eq_true rfl⟩ ⟨Nat.le_of_ble_eq_true rfl, Nat.le_of_ble_eq_true rfl⟩ 0 rfl rfl rfl hl.1 rfl (Nat.le_of_ble_eq_true rfl) dX5_landing_49 ?_
          have ha_h_7 := ap_rg (h := (hd f a w)) (g := (hd f b i)) hx0 (a := a) (b := b) ⟨by omega, by omega⟩ ⟨by omega, by omega⟩ ⟨by omega, by omega⟩ ⟨by omega, by omega⟩
          refine lv_imul hx hb dX5_landing_52 ?_
          refine lv_topi (fun x_8 ex_8 => ?_)
          obtain rfl : x_8 = iZ (10 * (ap f a (hd f a w) b (hd f b i))) := ex_8.trans (iZ_mul 10 (ap f a (hd f a w) b (hd f b i)))
          refine lv_iload hx hb dX5_landing_53 (lv_at hl 0 rfl) ?_
          refine lv_iload_n hx hb dX5_landing_55 rfl (lv_at hl 5 rfl) ?_
          refine lv_isub hx hb dX5_landing_56 ?_
          refine lv_topi (fun x_9 ex_9 => ?_)
          obtain rfl : x_9 = iZ (i - w) := ex_9.trans (iZ_sub i w)
          refine lv_icmp_gt (tgt := 63) hx hb dX5_landing_57 (by decide) (fun c_10 => ?_) (fun c_10 => ?_)
          ·
            have c_10 := (zlt (x := iZ (i - w)) (y := iZ (10 * (ap f a (hd f a w) b (hd f b i)))) rfl rfl ⟨by omega, by omega⟩ ⟨by omega, by omega⟩).mp c_10
            refine lv_iinc (v := iZ (i + 1)) (lv' := [(6, .int (iZ (i + 1))), (5, .int (iZ (w + 200))), (4, .int (iZ (hd f a w))), (0, .ref h), (1, .int (iZ a)), (2, .int (iZ w)), (3, .int (iZ b))]) hx hb dX5_landing_63 hl (k := 0) rfl (iZ_add i 1) (by decide) rfl (fun ls hl => ?_)
            refine lv_goto (tgt := 28) hx hb dX5_landing_66 (by decide) ?_
            exact ih1  (i + 1) _ (by omega) (by omega) (by omega) (by intro t h1 h2; rcases Int.lt_or_eq_of_le (show t ≤ i by omega) with h3 | h3; exact hi3 t h1 h3; rw [h3]; have := c_10; unfold lt; omega) (lv_sub hl [0, 1, 2, 3, 4, 5, 6] rfl)
          ·
            have c_10 := mt (zlt (x := iZ (i - w)) (y := iZ (10 * (ap f a (hd f a w) b (hd f b i)))) rfl rfl ⟨by omega, by omega⟩ ⟨by omega, by omega⟩).mpr c_10
            refine lv_iload hx hb dX5_landing_60 (lv_at hl 0 rfl) ?_
            exact EPi hx hb hr hlocks (by unfold isLd; rw [if_neg c_1]; refine ⟨hi1, hi2, ?_, hi3⟩; have := c_10; unfold lt; omega) dX5_landing_62
    exact HL1 200 (w + 10) _ (by omega) (by omega) (by omega) (fun t h1 h2 => absurd h1 (by omega)) (lv_sub hl [0, 1, 2, 3, 4, 5, 6] rfl)
  ·
    have c_1 := (zeq (x := iZ a) (y := iZ b) rfl rfl ⟨by omega, by omega⟩ ⟨by omega, by omega⟩).mp c_1
    refine lv_iload_n hx hb dX5_landing_5 rfl (lv_at hl 2 rfl) ?_
    exact EPi hx hb hr hlocks (by unfold isLd; rw [if_pos c_1]) dX5_landing_6
theorem ld_rg {f : Nat → Int32} {n a w b t : Int} (hx0 : FXI f n) (ha : 0 ≤ a ∧ a < n) (hb : 0 ≤ b ∧ b < n) (h : isLd f a w b t) : w ≤ t ∧ t ≤ w + 200 := by
  unfold isLd at h
  split at h
  · omega
  · omega
def pr (f : Nat → Int32) (a w : Int) : Int := (gz f ((a * 6) + 4) + (gz f ((a * 6) + 5) * hd f a w))
theorem pr_rg {f : Nat → Int32} {n a w : Int} (hx0 : FXI f n) (ha : 0 ≤ a ∧ a < n) : 0 ≤ pr f a w ∧ pr f a w ≤ 319 := by
  have h := hx0 a ha.1 ha.2
  have h2 := hd_rg f a w
  have h3 := mul_b (a := gz f ((a * 6) + 5)) (b := hd f a w) (A := 20) (B := 11) (by omega) (by omega) (by omega) (by omega)
  unfold pr
  omega
set_option maxHeartbeats 4000000 in
set_option maxRecDepth 100000 in
theorem k_price (l : Launch) (D : va_G) (k : Nat → ClassId) (h hf : Nat) (fs : List Value) (f1 : fs[1]? = some (.ref hf)) (f : Nat → Int32) (n : Int) (hn : n ≤ 6) (hx0 : FXI f n) (a w : Int) (ha : 0 ≤ a ∧ a < n) (hw : 0 ≤ w ∧ w ≤ 1000) : RD l yX5_priceIn cX5_priceIn 3 (some .int) 1 D k [.ref h, .int (iZ a), .int (iZ w)] [(h, .inr (5, fs)), (hf, .inl (k 1, 36, .inl f))] (iZ (pr f a w)) := by
  refine MR (by decide) (Nat.le_of_ble_eq_true rfl) (fun p e s m below meth c ls hx hb hml hr hlocks hts hown hKK hP hl => ?_)
  have hK := hKK.1
  have hl : lv_has ls 3 [(0, .ref h), (1, .int (iZ a)), (2, .int (iZ w))] := hl
  have hfx := hx0 a ha.1 ha.2
  refine lv_aload_n hx hb dX5_priceIn_0 rfl (lv_at hl 0 rfl) ?_
  refine va_get (D := D) (ci := 5) (v := .ref hf) (C := RX5) (T := TX5) (N := 7) hx hb hts iX5 hown hK hP 0 rfl rfl 1 (by decide) (hts _ qf_X5_15) (fun _ h => h) f1 dX5_priceIn_1 ?_
  refine lv_iload_n hx hb dX5_priceIn_4 rfl (lv_at hl 1 rfl) ?_
  refine lv_bipush (v := iZ 6) hx hb dX5_priceIn_5 (by decide) ?_
  refine lv_imul hx hb dX5_priceIn_7 ?_
  refine lv_topi (fun x_1 ex_1 => ?_)
  obtain rfl : x_1 = iZ (a * 6) := ex_1.trans (iZ_mul a 6)
  refine lv_iconst (v := iZ 4) hx hb dX5_priceIn_8 (by decide) ?_
  refine lv_iadd hx hb dX5_priceIn_9 ?_
  refine lv_topi (fun x_2 ex_2 => ?_)
  obtain rfl : x_2 = iZ ((a * 6) + 4) := ex_2.trans (iZ_add (a * 6) 4)
  refine va_iald hx hb hK hP 1 1 rfl rfl (zin (e := ((a * 6) + 4)) (n := 36) ⟨by omega, by omega⟩ (by decide)) dX5_priceIn_10 ?_
  refine lv_topi (fun x_3 ex_3 => ?_)
  obtain rfl : x_3 = iZ (gz f ((a * 6) + 4)) := ex_3.trans (gz_eq ⟨by omega, by omega⟩)
  have h_4 := gz_rg f ((a * 6) + 4)
  refine lv_aload_n hx hb dX5_priceIn_11 rfl (lv_at hl 0 rfl) ?_
  refine va_get (D := D) (ci := 5) (v := .ref hf) (C := RX5) (T := TX5) (N := 7) hx hb hts iX5 hown hK hP 0 rfl rfl 1 (by decide) (hts _ qf_X5_15) (fun _ h => h) f1 dX5_priceIn_12 ?_
  refine lv_iload_n hx hb dX5_priceIn_15 rfl (lv_at hl 1 rfl) ?_
  refine lv_bipush (v := iZ 6) hx hb dX5_priceIn_16 (by decide) ?_
  refine lv_imul hx hb dX5_priceIn_18 ?_
  refine lv_topi (fun x_5 ex_5 => ?_)
  obtain rfl : x_5 = iZ (a * 6) := ex_5.trans (iZ_mul a 6)
  refine lv_iconst (v := iZ 5) hx hb dX5_priceIn_19 (by decide) ?_
  refine lv_iadd hx hb dX5_priceIn_20 ?_
  refine lv_topi (fun x_6 ex_6 => ?_)
  obtain rfl : x_6 = iZ ((a * 6) + 5) := ex_6.trans (iZ_add (a * 6) 5)
  refine va_iald hx hb hK hP 1 1 rfl rfl (zin (e := ((a * 6) + 5)) (n := 36) ⟨by omega, by omega⟩ (by decide)) dX5_priceIn_21 ?_
  refine lv_topi (fun x_7 ex_7 => ?_)
  obtain rfl : x_7 = iZ (gz f ((a * 6) + 5)) := ex_7.trans (gz_eq ⟨by omega, by omega⟩)
  have h_8 := gz_rg f ((a * 6) + 5)
  refine lv_aload_n hx hb dX5_priceIn_22 rfl (lv_at hl 0 rfl) ?_
  refine lv_iload_n hx hb dX5_priceIn_23 rfl (lv_at hl 1 rfl) ?_
  refine lv_iload_n hx hb dX5_priceIn_24 rfl (lv_at hl 2 rfl) ?_
  refine CRV (As := [.int (iZ a), .int (iZ w)]) (rest := [.int (iZ (gz f ((a * 6) + 5))), .int (iZ (gz f ((a * 6) + 4)))]) hx hb hml hown hts hKK hP (k_heading l D k h hf fs f1 f n hn hx0 a w ⟨by omega, by omega⟩ ⟨by omega, by omega⟩) ci_X5_heading qm_X5_47 ⟨Nat.le_of_ble_eq_true rfl, Nat.le_of_ble_eq_true rfl⟩ ⟨Nat.le_of_ble_eq_true rfl, Nat.le_of_ble_eq_true rfl⟩ 0 rfl rfl rfl hl.1 rfl (Nat.le_of_ble_eq_true rfl) dX5_priceIn_25 ?_
  have hh_h_9 := hd_rg f a w
  have hm_28 := mul_b (a := (gz f ((a * 6) + 5))) (b := (hd f a w)) (A := 20) (B := 11) (by omega) (by omega) (by omega) (by omega)
  refine lv_imul hx hb dX5_priceIn_28 ?_
  refine lv_topi (fun x_10 ex_10 => ?_)
  obtain rfl : x_10 = iZ ((gz f ((a * 6) + 5)) * (hd f a w)) := ex_10.trans (iZ_mul (gz f ((a * 6) + 5)) (hd f a w))
  refine lv_iadd hx hb dX5_priceIn_29 ?_
  refine lv_topi (fun x_11 ex_11 => ?_)
  obtain rfl : x_11 = iZ ((gz f ((a * 6) + 4)) + ((gz f ((a * 6) + 5)) * (hd f a w))) := ex_11.trans (iZ_add (gz f ((a * 6) + 4)) ((gz f ((a * 6) + 5)) * (hd f a w)))
  exact ERi hx hb hr hlocks rfl dX5_priceIn_30
set_option maxHeartbeats 4000000 in
set_option maxRecDepth 100000 in
theorem k_gain (l : Launch) (D : va_G) (k : Nat → ClassId) (h hf : Nat) (fs : List Value) (f1 : fs[1]? = some (.ref hf)) (f : Nat → Int32) (n : Int) (hn : n ≤ 6) (hx0 : FXI f n) (a w b : Int) (ha : 0 ≤ a ∧ a < n) (hb0 : 0 ≤ b ∧ b < n) (hw : 0 ≤ w ∧ w ≤ 700) : RP l yX5_gainOf cX5_gainOf 4 (some .int) 2 D k [.ref h, .int (iZ a), .int (iZ w), .int (iZ b)] [(h, .inr (5, fs)), (hf, .inl (k 1, 36, .inl f))] (fun z => ∃ t, isLd f a w b t ∧ z = pr f b t - pr f a w) := by
  refine MRP (by decide) (Nat.le_of_ble_eq_true rfl) (fun p e s m below meth c ls hx hb hml hr hlocks hts hown hKK hP hl => ?_)
  have hK := hKK.1
  have hl : lv_has ls 4 [(0, .ref h), (1, .int (iZ a)), (2, .int (iZ w)), (3, .int (iZ b))] := hl
  refine lv_aload_n hx hb dX5_gainOf_0 rfl (lv_at hl 0 rfl) ?_
  refine lv_iload_n hx hb dX5_gainOf_1 rfl (lv_at hl 3 rfl) ?_
  refine lv_aload_n hx hb dX5_gainOf_2 rfl (lv_at hl 0 rfl) ?_
  refine lv_iload_n hx hb dX5_gainOf_3 rfl (lv_at hl 1 rfl) ?_
  refine lv_iload_n hx hb dX5_gainOf_4 rfl (lv_at hl 2 rfl) ?_
  refine lv_iload_n hx hb dX5_gainOf_5 rfl (lv_at hl 3 rfl) ?_
  refine CPV (As := [.int (iZ a), .int (iZ w), .int (iZ b)]) (rest := [.int (iZ b), .ref h]) hx hb hml hown hts hKK hP (k_landing l D k h hf fs f1 f n hn hx0 a w b ⟨by omega, by omega⟩ ⟨by omega, by omega⟩ ⟨by omega, by omega⟩) ci_X5_landing qm_X5_55 ⟨Nat.le_of_ble_eq_true rfl, Nat.le_of_ble_eq_true rfl⟩ ⟨Nat.le_of_ble_eq_true rfl, Nat.le_of_ble_eq_true rfl⟩ 0 rfl rfl rfl hl.1 rfl (Nat.le_of_ble_eq_true rfl) dX5_gainOf_6 (fun z_1 hz_1 => ?_)
  have hrz_1 := ld_rg hx0 ⟨by omega, by omega⟩ ⟨by omega, by omega⟩ hz_1
  refine CRV (As := [.int (iZ b), .int (iZ z_1)]) (rest := []) hx hb hml hown hts hKK hP (k_price l D k h hf fs f1 f n hn hx0 b z_1 ⟨by omega, by omega⟩ ⟨by omega, by omega⟩) ci_X5_priceIn qm_X5_59 ⟨Nat.le_of_ble_eq_true rfl, Nat.le_of_ble_eq_true rfl⟩ ⟨Nat.le_of_ble_eq_true rfl, Nat.le_of_ble_eq_true rfl⟩ 0 rfl rfl rfl hl.1 rfl (Nat.le_of_ble_eq_true rfl) dX5_gainOf_9 ?_
  have hp_h_2 := pr_rg (w := z_1) hx0 (a := b) ⟨by omega, by omega⟩
  refine lv_aload_n hx hb dX5_gainOf_12 rfl (lv_at hl 0 rfl) ?_
  refine lv_iload_n hx hb dX5_gainOf_13 rfl (lv_at hl 1 rfl) ?_
  refine lv_iload_n hx hb dX5_gainOf_14 rfl (lv_at hl 2 rfl) ?_
  refine CRV (As := [.int (iZ a), .int (iZ w)]) (rest := [.int (iZ (pr f b z_1))]) hx hb hml hown hts hKK hP (k_price l D k h hf fs f1 f n hn hx0 a w ⟨by omega, by omega⟩ ⟨by omega, by omega⟩) ci_X5_priceIn qm_X5_59 ⟨Nat.le_of_ble_eq_true rfl, Nat.le_of_ble_eq_true rfl⟩ ⟨Nat.le_of_ble_eq_true rfl, Nat.le_of_ble_eq_true rfl⟩ 0 rfl rfl rfl hl.1 rfl (Nat.le_of_ble_eq_true rfl) dX5_gainOf_15 ?_
  have hp_h_3 := pr_rg (w := w) hx0 (a := a) ⟨by omega, by omega⟩
  refine lv_isub hx hb dX5_gainOf_18 ?_
  refine lv_topi (fun x_4 ex_4 => ?_)
  obtain rfl : x_4 = iZ ((pr f b z_1) - (pr f a w)) := ex_4.trans (iZ_sub (pr f b z_1) (pr f a w))
  exact EPi hx hb hr hlocks ⟨_, hz_1, rfl⟩ dX5_gainOf_19
set_option maxHeartbeats 4000000 in
set_option maxRecDepth 100000 in
theorem k_fact (l : Launch) (D : va_G) (k : Nat → ClassId) (h hf : Nat) (fs : List Value) (f1 : fs[1]? = some (.ref hf)) (f : Nat → Int32) (a w : Int) (ha : 0 ≤ a ∧ a < 6) (hw : 0 ≤ w ∧ w < 6) : RD l yX5_fact cX5_fact 3 (some .int) 0 D k [.ref h, .int (iZ a), .int (iZ w)] [(h, .inr (5, fs)), (hf, .inl (k 1, 36, .inl f))] (iZ (gz f ((a * 6) + w))) := by
  refine MR (by decide) (Nat.le_of_ble_eq_true rfl) (fun p e s m below meth c ls hx hb hml hr hlocks hts hown hKK hP hl => ?_)
  have hK := hKK.1
  have hl : lv_has ls 3 [(0, .ref h), (1, .int (iZ a)), (2, .int (iZ w))] := hl
  refine lv_aload_n hx hb dX5_fact_0 rfl (lv_at hl 0 rfl) ?_
  refine va_get (D := D) (ci := 5) (v := .ref hf) (C := RX5) (T := TX5) (N := 7) hx hb hts iX5 hown hK hP 0 rfl rfl 1 (by decide) (hts _ qf_X5_15) (fun _ h => h) f1 dX5_fact_1 ?_
  refine lv_iload_n hx hb dX5_fact_4 rfl (lv_at hl 1 rfl) ?_
  refine lv_bipush (v := iZ 6) hx hb dX5_fact_5 (by decide) ?_
  refine lv_imul hx hb dX5_fact_7 ?_
  refine lv_topi (fun x_1 ex_1 => ?_)
  obtain rfl : x_1 = iZ (a * 6) := ex_1.trans (iZ_mul a 6)
  refine lv_iload_n hx hb dX5_fact_8 rfl (lv_at hl 2 rfl) ?_
  refine lv_iadd hx hb dX5_fact_9 ?_
  refine lv_topi (fun x_2 ex_2 => ?_)
  obtain rfl : x_2 = iZ ((a * 6) + w) := ex_2.trans (iZ_add (a * 6) w)
  refine va_iald hx hb hK hP 1 1 rfl rfl (zin (e := ((a * 6) + w)) (n := 36) ⟨by omega, by omega⟩ (by decide)) dX5_fact_10 ?_
  refine lv_topi (fun x_3 ex_3 => ?_)
  obtain rfl : x_3 = iZ (gz f ((a * 6) + w)) := ex_3.trans (gz_eq ⟨by omega, by omega⟩)
  have h_4 := gz_rg f ((a * 6) + w)
  exact ERi hx hb hr hlocks rfl dX5_fact_11
noncomputable def bz (P : Prop) : Int := @ite Int P (Classical.propDecidable P) 1 0
theorem bz_t {P : Prop} (h : P) : bz P = 1 := by unfold bz; exact if_pos h
theorem bz_f {P : Prop} (h : ¬ P) : bz P = 0 := by unfold bz; exact if_neg h
/-- the ICE of a row is between two rocks in a week -/
def icR (g : Nat → Int32) (j a b w : Int) : Prop := ((gz g ((j * 4) + 0) = a ∧ gz g ((j * 4) + 1) = b) ∨ (gz g ((j * 4) + 0) = b ∧ gz g ((j * 4) + 1) = a)) ∧ gz g ((j * 4) + 2) ≤ w ∧ w ≤ gz g ((j * 4) + 3)
def isIc (g : Nat → Int32) (n a b w : Int) : Prop := ∃ j : Int, 0 ≤ j ∧ j < n ∧ icR g j a b w
set_option maxHeartbeats 4000000 in
set_option maxRecDepth 100000 in
theorem k_ice (l : Launch) (D : va_G) (k : Nat → ClassId) (h hg : Nat) (fs : List Value) (f2 : fs[2]? = some (.ref hg)) (g : Nat → Int32) (ni : Int) (f4 : fs[4]? = some (.int (iZ ni))) (hni : 0 ≤ ni ∧ ni ≤ 8) (a b w : Int) (ha : 0 ≤ a ∧ a < 6) (hb0 : 0 ≤ b ∧ b < 6) (hw : 0 ≤ w ∧ w ≤ 1000) : RD l yX5_hasIce cX5_hasIce 9 (some .boolean) 0 D k [.ref h, .int (iZ a), .int (iZ b), .int (iZ w)] [(h, .inr (5, fs)), (hg, .inl (k 1, 32, .inl g))] (iZ (bz (isIc g ni a b w))) := by
  refine MR (by decide) (Nat.le_of_ble_eq_true rfl) (fun p e s m below meth c ls hx hb hml hr hlocks hts hown hKK hP hl => ?_)
  have hK := hKK.1
  have hl : lv_has ls 9 [(0, .ref h), (1, .int (iZ a)), (2, .int (iZ b)), (3, .int (iZ w))] := hl
  refine lv_iconst (v := iZ 0) hx hb dX5_hasIce_0 (by decide) ?_
  refine lv_istore (lv' := [(4, .int (iZ 0)), (0, .ref h), (1, .int (iZ a)), (2, .int (iZ b)), (3, .int (iZ w))]) hx hb dX5_hasIce_1 hl (by decide) rfl (fun ls hl => ?_)
  have HL1 : ∀ (fu : Nat) (i : Int) (ls : Array Slot), (ni + 1 - i) < (fu : Int) → 0 ≤ i → i ≤ ni → (∀ j : Int, 0 ≤ j → j < i → ¬ icR g j a b w) → lv_has ls 9 [(4, .int (iZ i)), (0, .ref h), (1, .int (iZ a)), (2, .int (iZ b)), (3, .int (iZ w))] → W p l e (rj 0 0 0) s m [.ref h, .int (iZ a), .int (iZ b), .int (iZ w)].toArray below meth c s.heap [] 0 0 (MQ below (QcRead (iZ (bz (isIc g ni a b w)))) [.ref h, .int (iZ a), .int (iZ b), .int (iZ w)].toArray s 0 0 (fun _ => False)) (F0 m 3 ls []) := by
    intro fu
    induction fu with
    | zero => intro i ls hμ1 hi1 hi2 hi3 hl; exact absurd hμ1 (by omega)
    | succ fu ih1 =>
      intro i ls hμ1 hi1 hi2 hi3 hl
      refine lv_iload hx hb dX5_hasIce_3 (lv_at hl 0 rfl) ?_
      refine lv_aload_n hx hb dX5_hasIce_5 rfl (lv_at hl 1 rfl) ?_
      refine va_get (D := D) (ci := 5) (v := .int (iZ ni)) (C := RX5) (T := TX5) (N := 7) hx hb hts iX5 hown hK hP 0 rfl rfl 4 (by decide) (hts _ qf_X5_26) (fun _ h => h) f4 dX5_hasIce_6 ?_
      refine lv_icmp_ge (tgt := 110) hx hb dX5_hasIce_9 (by decide) (fun c_1 => ?_) (fun c_1 => ?_)
      ·
        have c_1 := (zle (x := iZ ni) (y := iZ i) rfl rfl ⟨by omega, by omega⟩ ⟨by omega, by omega⟩).mp c_1
        refine lv_iconst (v := iZ 0) hx hb dX5_hasIce_110 (by decide) ?_
        exact ERz hx hb hr hlocks rfl (by rw [bz_f (fun ⟨j, h1, h2, h3⟩ => hi3 j h1 (by omega) h3)]) dX5_hasIce_111
      ·
        have c_1 := mt (zle (x := iZ ni) (y := iZ i) rfl rfl ⟨by omega, by omega⟩ ⟨by omega, by omega⟩).mpr c_1
        refine lv_iload hx hb dX5_hasIce_12 (lv_at hl 0 rfl) ?_
        refine lv_iconst (v := iZ 4) hx hb dX5_hasIce_14 (by decide) ?_
        refine lv_imul hx hb dX5_hasIce_15 ?_
        refine lv_topi (fun x_2 ex_2 => ?_)
        obtain rfl : x_2 = iZ (i * 4) := ex_2.trans (iZ_mul i 4)
        refine lv_istore (lv' := [(5, .int (iZ (i * 4))), (4, .int (iZ i)), (0, .ref h), (1, .int (iZ a)), (2, .int (iZ b)), (3, .int (iZ w))]) hx hb dX5_hasIce_16 hl (by decide) rfl (fun ls hl => ?_)
        refine lv_aload_n hx hb dX5_hasIce_18 rfl (lv_at hl 2 rfl) ?_
        refine va_get (D := D) (ci := 5) (v := .ref hg) (C := RX5) (T := TX5) (N := 7) hx hb hts iX5 hown hK hP 0 rfl rfl 2 (by decide) (hts _ qf_X5_19) (fun _ h => h) f2 dX5_hasIce_19 ?_
        refine lv_iload hx hb dX5_hasIce_22 (lv_at hl 0 rfl) ?_
        refine lv_iconst (v := iZ 0) hx hb dX5_hasIce_24 (by decide) ?_
        refine lv_iadd hx hb dX5_hasIce_25 ?_
        refine lv_topi (fun x_3 ex_3 => ?_)
        obtain rfl : x_3 = iZ ((i * 4) + 0) := ex_3.trans (iZ_add (i * 4) 0)
        refine va_iald hx hb hK hP 1 1 rfl rfl (zin (e := ((i * 4) + 0)) (n := 32) ⟨by omega, by omega⟩ (by decide)) dX5_hasIce_26 ?_
        refine lv_topi (fun x_4 ex_4 => ?_)
        obtain rfl : x_4 = iZ (gz g ((i * 4) + 0)) := ex_4.trans (gz_eq ⟨by omega, by omega⟩)
        have h_5 := gz_rg g ((i * 4) + 0)
        refine lv_istore (lv' := [(6, .int (iZ (gz g ((i * 4) + 0)))), (5, .int (iZ (i * 4))), (4, .int (iZ i)), (0, .ref h), (1, .int (iZ a)), (2, .int (iZ b)), (3, .int (iZ w))]) hx hb dX5_hasIce_27 hl (by decide) rfl (fun ls hl => ?_)
        refine lv_aload_n hx hb dX5_hasIce_29 rfl (lv_at hl 3 rfl) ?_
        refine va_get (D := D) (ci := 5) (v := .ref hg) (C := RX5) (T := TX5) (N := 7) hx hb hts iX5 hown hK hP 0 rfl rfl 2 (by decide) (hts _ qf_X5_19) (fun _ h => h) f2 dX5_hasIce_30 ?_
        refine lv_iload hx hb dX5_hasIce_33 (lv_at hl 1 rfl) ?_
        refine lv_iconst (v := iZ 1) hx hb dX5_hasIce_35 (by decide) ?_
        refine lv_iadd hx hb dX5_hasIce_36 ?_
        refine lv_topi (fun x_6 ex_6 => ?_)
        obtain rfl : x_6 = iZ ((i * 4) + 1) := ex_6.trans (iZ_add (i * 4) 1)
        refine va_iald hx hb hK hP 1 1 rfl rfl (zin (e := ((i * 4) + 1)) (n := 32) ⟨by omega, by omega⟩ (by decide)) dX5_hasIce_37 ?_
        refine lv_topi (fun x_7 ex_7 => ?_)
        obtain rfl : x_7 = iZ (gz g ((i * 4) + 1)) := ex_7.trans (gz_eq ⟨by omega, by omega⟩)
        have h_8 := gz_rg g ((i * 4) + 1)
        refine lv_istore (lv' := [(7, .int (iZ (gz g ((i * 4) + 1)))), (6, .int (iZ (gz g ((i * 4) + 0)))), (5, .int (iZ (i * 4))), (4, .int (iZ i)), (0, .ref h), (1, .int (iZ a)), (2, .int (iZ b)), (3, .int (iZ w))]) hx hb dX5_hasIce_38 hl (by decide) rfl (fun ls hl => ?_)
        refine lv_iload hx hb dX5_hasIce_40 (lv_at hl 1 rfl) ?_
        refine lv_iload_n hx hb dX5_hasIce_42 rfl (lv_at hl 5 rfl) ?_
        refine lv_icmp_ne (tgt := 52) hx hb dX5_hasIce_43 (by decide) (fun c_9 => ?_) (fun c_9 => ?_)
        ·
          have c_9 := mt (zeq (x := iZ (gz g ((i * 4) + 0))) (y := iZ a) rfl rfl ⟨by omega, by omega⟩ ⟨by omega, by omega⟩).mpr c_9
          refine lv_iload hx hb dX5_hasIce_52 (lv_at hl 1 rfl) ?_
          refine lv_iload_n hx hb dX5_hasIce_54 rfl (lv_at hl 6 rfl) ?_
          refine lv_icmp_ne (tgt := 68) hx hb dX5_hasIce_55 (by decide) (fun c_10 => ?_) (fun c_10 => ?_)
          ·
            have c_10 := mt (zeq (x := iZ (gz g ((i * 4) + 0))) (y := iZ b) rfl rfl ⟨by omega, by omega⟩ ⟨by omega, by omega⟩).mpr c_10
            refine lv_iconst (v := iZ 0) hx hb dX5_hasIce_68 (by decide) ?_
            refine lv_istore (lv' := [(8, .int (iZ 0)), (7, .int (iZ (gz g ((i * 4) + 1)))), (6, .int (iZ (gz g ((i * 4) + 0)))), (5, .int (iZ (i * 4))), (4, .int (iZ i)), (0, .ref h), (1, .int (iZ a)), (2, .int (iZ b)), (3, .int (iZ w))]) hx hb dX5_hasIce_69 hl (by decide) rfl (fun ls hl => ?_)
            refine lv_iload hx hb dX5_hasIce_71 (lv_at hl 0 rfl) ?_
            refine lv_if_eq (tgt := 104) hx hb dX5_hasIce_73 (by decide) (fun _ => ?_) (fun c => absurd (by decide) c)
            refine lv_iinc (v := iZ (i + 1)) (lv' := [(4, .int (iZ (i + 1))), (8, .int (iZ 0)), (7, .int (iZ (gz g ((i * 4) + 1)))), (6, .int (iZ (gz g ((i * 4) + 0)))), (5, .int (iZ (i * 4))), (0, .ref h), (1, .int (iZ a)), (2, .int (iZ b)), (3, .int (iZ w))]) hx hb dX5_hasIce_104 hl (k := 4) rfl (iZ_add i 1) (by decide) rfl (fun ls hl => ?_)
            refine lv_goto (tgt := 3) hx hb dX5_hasIce_107 (by decide) ?_
            exact ih1  (i + 1) _ (by omega) (by omega) (by omega) (by intro j h1 h2; rcases Int.lt_or_eq_of_le (show j ≤ i by omega) with h3 | h3; exact hi3 j h1 h3; rw [h3]; unfold icR; omega) (lv_sub hl [0, 5, 6, 7, 8] rfl)
          ·
            have c_10 := (zeq (x := iZ (gz g ((i * 4) + 0))) (y := iZ b) rfl rfl ⟨by omega, by omega⟩ ⟨by omega, by omega⟩).mp c_10
            refine lv_iload hx hb dX5_hasIce_58 (lv_at hl 0 rfl) ?_
            refine lv_iload_n hx hb dX5_hasIce_60 rfl (lv_at hl 5 rfl) ?_
            refine lv_icmp_ne (tgt := 68) hx hb dX5_hasIce_61 (by decide) (fun c_12 => ?_) (fun c_12 => ?_)
            ·
              have c_12 := mt (zeq (x := iZ (gz g ((i * 4) + 1))) (y := iZ a) rfl rfl ⟨by omega, by omega⟩ ⟨by omega, by omega⟩).mpr c_12
              refine lv_iconst (v := iZ 0) hx hb dX5_hasIce_68 (by decide) ?_
              refine lv_istore (lv' := [(8, .int (iZ 0)), (7, .int (iZ (gz g ((i * 4) + 1)))), (6, .int (iZ (gz g ((i * 4) + 0)))), (5, .int (iZ (i * 4))), (4, .int (iZ i)), (0, .ref h), (1, .int (iZ a)), (2, .int (iZ b)), (3, .int (iZ w))]) hx hb dX5_hasIce_69 hl (by decide) rfl (fun ls hl => ?_)
              refine lv_iload hx hb dX5_hasIce_71 (lv_at hl 0 rfl) ?_
              refine lv_if_eq (tgt := 104) hx hb dX5_hasIce_73 (by decide) (fun _ => ?_) (fun c => absurd (by decide) c)
              refine lv_iinc (v := iZ (i + 1)) (lv' := [(4, .int (iZ (i + 1))), (8, .int (iZ 0)), (7, .int (iZ (gz g ((i * 4) + 1)))), (6, .int (iZ (gz g ((i * 4) + 0)))), (5, .int (iZ (i * 4))), (0, .ref h), (1, .int (iZ a)), (2, .int (iZ b)), (3, .int (iZ w))]) hx hb dX5_hasIce_104 hl (k := 4) rfl (iZ_add i 1) (by decide) rfl (fun ls hl => ?_)
              refine lv_goto (tgt := 3) hx hb dX5_hasIce_107 (by decide) ?_
              exact ih1  (i + 1) _ (by omega) (by omega) (by omega) (by intro j h1 h2; rcases Int.lt_or_eq_of_le (show j ≤ i by omega) with h3 | h3; exact hi3 j h1 h3; rw [h3]; unfold icR; omega) (lv_sub hl [0, 5, 6, 7, 8] rfl)
            ·
              have c_12 := (zeq (x := iZ (gz g ((i * 4) + 1))) (y := iZ a) rfl rfl ⟨by omega, by omega⟩ ⟨by omega, by omega⟩).mp c_12
              refine lv_iconst (v := iZ 1) hx hb dX5_hasIce_64 (by decide) ?_
              refine lv_goto (tgt := 69) hx hb dX5_hasIce_65 (by decide) ?_
              refine lv_istore (lv' := [(8, .int (iZ 1)), (7, .int (iZ (gz g ((i * 4) + 1)))), (6, .int (iZ (gz g ((i * 4) + 0)))), (5, .int (iZ (i * 4))), (4, .int (iZ i)), (0, .ref h), (1, .int (iZ a)), (2, .int (iZ b)), (3, .int (iZ w))]) hx hb dX5_hasIce_69 hl (by decide) rfl (fun ls hl => ?_)
              refine lv_iload hx hb dX5_hasIce_71 (lv_at hl 0 rfl) ?_
              refine lv_if_eq (tgt := 104) hx hb dX5_hasIce_73 (by decide) (fun c => absurd c (by decide)) (fun _ => ?_)
              refine lv_iload_n hx hb dX5_hasIce_76 rfl (lv_at hl 8 rfl) ?_
              refine lv_aload_n hx hb dX5_hasIce_77 rfl (lv_at hl 5 rfl) ?_
              refine va_get (D := D) (ci := 5) (v := .ref hg) (C := RX5) (T := TX5) (N := 7) hx hb hts iX5 hown hK hP 0 rfl rfl 2 (by decide) (hts _ qf_X5_19) (fun _ h => h) f2 dX5_hasIce_78 ?_
              refine lv_iload hx hb dX5_hasIce_81 (lv_at hl 3 rfl) ?_
              refine lv_iconst (v := iZ 2) hx hb dX5_hasIce_83 (by decide) ?_
              refine lv_iadd hx hb dX5_hasIce_84 ?_
              refine lv_topi (fun x_15 ex_15 => ?_)
              obtain rfl : x_15 = iZ ((i * 4) + 2) := ex_15.trans (iZ_add (i * 4) 2)
              refine va_iald hx hb hK hP 1 1 rfl rfl (zin (e := ((i * 4) + 2)) (n := 32) ⟨by omega, by omega⟩ (by decide)) dX5_hasIce_85 ?_
              refine lv_topi (fun x_16 ex_16 => ?_)
              obtain rfl : x_16 = iZ (gz g ((i * 4) + 2)) := ex_16.trans (gz_eq ⟨by omega, by omega⟩)
              have h_17 := gz_rg g ((i * 4) + 2)
              refine lv_icmp_lt (tgt := 104) hx hb dX5_hasIce_86 (by decide) (fun c_18 => ?_) (fun c_18 => ?_)
              ·
                have c_18 := (zlt (x := iZ w) (y := iZ (gz g ((i * 4) + 2))) rfl rfl ⟨by omega, by omega⟩ ⟨by omega, by omega⟩).mp c_18
                refine lv_iinc (v := iZ (i + 1)) (lv' := [(4, .int (iZ (i + 1))), (8, .int (iZ 1)), (7, .int (iZ (gz g ((i * 4) + 1)))), (6, .int (iZ (gz g ((i * 4) + 0)))), (5, .int (iZ (i * 4))), (0, .ref h), (1, .int (iZ a)), (2, .int (iZ b)), (3, .int (iZ w))]) hx hb dX5_hasIce_104 hl (k := 4) rfl (iZ_add i 1) (by decide) rfl (fun ls hl => ?_)
                refine lv_goto (tgt := 3) hx hb dX5_hasIce_107 (by decide) ?_
                exact ih1  (i + 1) _ (by omega) (by omega) (by omega) (by intro j h1 h2; rcases Int.lt_or_eq_of_le (show j ≤ i by omega) with h3 | h3; exact hi3 j h1 h3; rw [h3]; unfold icR; omega) (lv_sub hl [0, 5, 6, 7, 8] rfl)
              ·
                have c_18 := mt (zlt (x := iZ w) (y := iZ (gz g ((i * 4) + 2))) rfl rfl ⟨by omega, by omega⟩ ⟨by omega, by omega⟩).mpr c_18
                refine lv_iload_n hx hb dX5_hasIce_89 rfl (lv_at hl 8 rfl) ?_
                refine lv_aload_n hx hb dX5_hasIce_90 rfl (lv_at hl 5 rfl) ?_
                refine va_get (D := D) (ci := 5) (v := .ref hg) (C := RX5) (T := TX5) (N := 7) hx hb hts iX5 hown hK hP 0 rfl rfl 2 (by decide) (hts _ qf_X5_19) (fun _ h => h) f2 dX5_hasIce_91 ?_
                refine lv_iload hx hb dX5_hasIce_94 (lv_at hl 3 rfl) ?_
                refine lv_iconst (v := iZ 3) hx hb dX5_hasIce_96 (by decide) ?_
                refine lv_iadd hx hb dX5_hasIce_97 ?_
                refine lv_topi (fun x_19 ex_19 => ?_)
                obtain rfl : x_19 = iZ ((i * 4) + 3) := ex_19.trans (iZ_add (i * 4) 3)
                refine va_iald hx hb hK hP 1 1 rfl rfl (zin (e := ((i * 4) + 3)) (n := 32) ⟨by omega, by omega⟩ (by decide)) dX5_hasIce_98 ?_
                refine lv_topi (fun x_20 ex_20 => ?_)
                obtain rfl : x_20 = iZ (gz g ((i * 4) + 3)) := ex_20.trans (gz_eq ⟨by omega, by omega⟩)
                have h_21 := gz_rg g ((i * 4) + 3)
                refine lv_icmp_gt (tgt := 104) hx hb dX5_hasIce_99 (by decide) (fun c_22 => ?_) (fun c_22 => ?_)
                ·
                  have c_22 := (zlt (x := iZ (gz g ((i * 4) + 3))) (y := iZ w) rfl rfl ⟨by omega, by omega⟩ ⟨by omega, by omega⟩).mp c_22
                  refine lv_iinc (v := iZ (i + 1)) (lv' := [(4, .int (iZ (i + 1))), (8, .int (iZ 1)), (7, .int (iZ (gz g ((i * 4) + 1)))), (6, .int (iZ (gz g ((i * 4) + 0)))), (5, .int (iZ (i * 4))), (0, .ref h), (1, .int (iZ a)), (2, .int (iZ b)), (3, .int (iZ w))]) hx hb dX5_hasIce_104 hl (k := 4) rfl (iZ_add i 1) (by decide) rfl (fun ls hl => ?_)
                  refine lv_goto (tgt := 3) hx hb dX5_hasIce_107 (by decide) ?_
                  exact ih1  (i + 1) _ (by omega) (by omega) (by omega) (by intro j h1 h2; rcases Int.lt_or_eq_of_le (show j ≤ i by omega) with h3 | h3; exact hi3 j h1 h3; rw [h3]; unfold icR; omega) (lv_sub hl [0, 5, 6, 7, 8] rfl)
                ·
                  have c_22 := mt (zlt (x := iZ (gz g ((i * 4) + 3))) (y := iZ w) rfl rfl ⟨by omega, by omega⟩ ⟨by omega, by omega⟩).mpr c_22
                  refine lv_iconst (v := iZ 1) hx hb dX5_hasIce_102 (by decide) ?_
                  exact ERz hx hb hr hlocks rfl (by rw [bz_t ⟨i, hi1, by omega, by unfold icR; omega⟩]) dX5_hasIce_103
        ·
          have c_9 := (zeq (x := iZ (gz g ((i * 4) + 0))) (y := iZ a) rfl rfl ⟨by omega, by omega⟩ ⟨by omega, by omega⟩).mp c_9
          refine lv_iload hx hb dX5_hasIce_46 (lv_at hl 0 rfl) ?_
          refine lv_iload_n hx hb dX5_hasIce_48 rfl (lv_at hl 6 rfl) ?_
          refine lv_icmp_eq (tgt := 64) hx hb dX5_hasIce_49 (by decide) (fun c_23 => ?_) (fun c_23 => ?_)
          ·
            have c_23 := (zeq (x := iZ (gz g ((i * 4) + 1))) (y := iZ b) rfl rfl ⟨by omega, by omega⟩ ⟨by omega, by omega⟩).mp c_23
            refine lv_iconst (v := iZ 1) hx hb dX5_hasIce_64 (by decide) ?_
            refine lv_goto (tgt := 69) hx hb dX5_hasIce_65 (by decide) ?_
            refine lv_istore (lv' := [(8, .int (iZ 1)), (7, .int (iZ (gz g ((i * 4) + 1)))), (6, .int (iZ (gz g ((i * 4) + 0)))), (5, .int (iZ (i * 4))), (4, .int (iZ i)), (0, .ref h), (1, .int (iZ a)), (2, .int (iZ b)), (3, .int (iZ w))]) hx hb dX5_hasIce_69 hl (by decide) rfl (fun ls hl => ?_)
            refine lv_iload hx hb dX5_hasIce_71 (lv_at hl 0 rfl) ?_
            refine lv_if_eq (tgt := 104) hx hb dX5_hasIce_73 (by decide) (fun c => absurd c (by decide)) (fun _ => ?_)
            refine lv_iload_n hx hb dX5_hasIce_76 rfl (lv_at hl 8 rfl) ?_
            refine lv_aload_n hx hb dX5_hasIce_77 rfl (lv_at hl 5 rfl) ?_
            refine va_get (D := D) (ci := 5) (v := .ref hg) (C := RX5) (T := TX5) (N := 7) hx hb hts iX5 hown hK hP 0 rfl rfl 2 (by decide) (hts _ qf_X5_19) (fun _ h => h) f2 dX5_hasIce_78 ?_
            refine lv_iload hx hb dX5_hasIce_81 (lv_at hl 3 rfl) ?_
            refine lv_iconst (v := iZ 2) hx hb dX5_hasIce_83 (by decide) ?_
            refine lv_iadd hx hb dX5_hasIce_84 ?_
            refine lv_topi (fun x_25 ex_25 => ?_)
            obtain rfl : x_25 = iZ ((i * 4) + 2) := ex_25.trans (iZ_add (i * 4) 2)
            refine va_iald hx hb hK hP 1 1 rfl rfl (zin (e := ((i * 4) + 2)) (n := 32) ⟨by omega, by omega⟩ (by decide)) dX5_hasIce_85 ?_
            refine lv_topi (fun x_26 ex_26 => ?_)
            obtain rfl : x_26 = iZ (gz g ((i * 4) + 2)) := ex_26.trans (gz_eq ⟨by omega, by omega⟩)
            have h_27 := gz_rg g ((i * 4) + 2)
            refine lv_icmp_lt (tgt := 104) hx hb dX5_hasIce_86 (by decide) (fun c_28 => ?_) (fun c_28 => ?_)
            ·
              have c_28 := (zlt (x := iZ w) (y := iZ (gz g ((i * 4) + 2))) rfl rfl ⟨by omega, by omega⟩ ⟨by omega, by omega⟩).mp c_28
              refine lv_iinc (v := iZ (i + 1)) (lv' := [(4, .int (iZ (i + 1))), (8, .int (iZ 1)), (7, .int (iZ (gz g ((i * 4) + 1)))), (6, .int (iZ (gz g ((i * 4) + 0)))), (5, .int (iZ (i * 4))), (0, .ref h), (1, .int (iZ a)), (2, .int (iZ b)), (3, .int (iZ w))]) hx hb dX5_hasIce_104 hl (k := 4) rfl (iZ_add i 1) (by decide) rfl (fun ls hl => ?_)
              refine lv_goto (tgt := 3) hx hb dX5_hasIce_107 (by decide) ?_
              exact ih1  (i + 1) _ (by omega) (by omega) (by omega) (by intro j h1 h2; rcases Int.lt_or_eq_of_le (show j ≤ i by omega) with h3 | h3; exact hi3 j h1 h3; rw [h3]; unfold icR; omega) (lv_sub hl [0, 5, 6, 7, 8] rfl)
            ·
              have c_28 := mt (zlt (x := iZ w) (y := iZ (gz g ((i * 4) + 2))) rfl rfl ⟨by omega, by omega⟩ ⟨by omega, by omega⟩).mpr c_28
              refine lv_iload_n hx hb dX5_hasIce_89 rfl (lv_at hl 8 rfl) ?_
              refine lv_aload_n hx hb dX5_hasIce_90 rfl (lv_at hl 5 rfl) ?_
              refine va_get (D := D) (ci := 5) (v := .ref hg) (C := RX5) (T := TX5) (N := 7) hx hb hts iX5 hown hK hP 0 rfl rfl 2 (by decide) (hts _ qf_X5_19) (fun _ h => h) f2 dX5_hasIce_91 ?_
              refine lv_iload hx hb dX5_hasIce_94 (lv_at hl 3 rfl) ?_
              refine lv_iconst (v := iZ 3) hx hb dX5_hasIce_96 (by decide) ?_
              refine lv_iadd hx hb dX5_hasIce_97 ?_
              refine lv_topi (fun x_29 ex_29 => ?_)
              obtain rfl : x_29 = iZ ((i * 4) + 3) := ex_29.trans (iZ_add (i * 4) 3)
              refine va_iald hx hb hK hP 1 1 rfl rfl (zin (e := ((i * 4) + 3)) (n := 32) ⟨by omega, by omega⟩ (by decide)) dX5_hasIce_98 ?_
              refine lv_topi (fun x_30 ex_30 => ?_)
              obtain rfl : x_30 = iZ (gz g ((i * 4) + 3)) := ex_30.trans (gz_eq ⟨by omega, by omega⟩)
              have h_31 := gz_rg g ((i * 4) + 3)
              refine lv_icmp_gt (tgt := 104) hx hb dX5_hasIce_99 (by decide) (fun c_32 => ?_) (fun c_32 => ?_)
              ·
                have c_32 := (zlt (x := iZ (gz g ((i * 4) + 3))) (y := iZ w) rfl rfl ⟨by omega, by omega⟩ ⟨by omega, by omega⟩).mp c_32
                refine lv_iinc (v := iZ (i + 1)) (lv' := [(4, .int (iZ (i + 1))), (8, .int (iZ 1)), (7, .int (iZ (gz g ((i * 4) + 1)))), (6, .int (iZ (gz g ((i * 4) + 0)))), (5, .int (iZ (i * 4))), (0, .ref h), (1, .int (iZ a)), (2, .int (iZ b)), (3, .int (iZ w))]) hx hb dX5_hasIce_104 hl (k := 4) rfl (iZ_add i 1) (by decide) rfl (fun ls hl => ?_)
                refine lv_goto (tgt := 3) hx hb dX5_hasIce_107 (by decide) ?_
                exact ih1  (i + 1) _ (by omega) (by omega) (by omega) (by intro j h1 h2; rcases Int.lt_or_eq_of_le (show j ≤ i by omega) with h3 | h3; exact hi3 j h1 h3; rw [h3]; unfold icR; omega) (lv_sub hl [0, 5, 6, 7, 8] rfl)
              ·
                have c_32 := mt (zlt (x := iZ (gz g ((i * 4) + 3))) (y := iZ w) rfl rfl ⟨by omega, by omega⟩ ⟨by omega, by omega⟩).mpr c_32
                refine lv_iconst (v := iZ 1) hx hb dX5_hasIce_102 (by decide) ?_
                exact ERz hx hb hr hlocks rfl (by rw [bz_t ⟨i, hi1, by omega, by unfold icR; omega⟩]) dX5_hasIce_103
          ·
            have c_23 := mt (zeq (x := iZ (gz g ((i * 4) + 1))) (y := iZ b) rfl rfl ⟨by omega, by omega⟩ ⟨by omega, by omega⟩).mpr c_23
            refine lv_iload hx hb dX5_hasIce_52 (lv_at hl 1 rfl) ?_
            refine lv_iload_n hx hb dX5_hasIce_54 rfl (lv_at hl 6 rfl) ?_
            refine lv_icmp_ne (tgt := 68) hx hb dX5_hasIce_55 (by decide) (fun c_33 => ?_) (fun c_33 => ?_)
            ·
              have c_33 := mt (zeq (x := iZ (gz g ((i * 4) + 0))) (y := iZ b) rfl rfl ⟨by omega, by omega⟩ ⟨by omega, by omega⟩).mpr c_33
              refine lv_iconst (v := iZ 0) hx hb dX5_hasIce_68 (by decide) ?_
              refine lv_istore (lv' := [(8, .int (iZ 0)), (7, .int (iZ (gz g ((i * 4) + 1)))), (6, .int (iZ (gz g ((i * 4) + 0)))), (5, .int (iZ (i * 4))), (4, .int (iZ i)), (0, .ref h), (1, .int (iZ a)), (2, .int (iZ b)), (3, .int (iZ w))]) hx hb dX5_hasIce_69 hl (by decide) rfl (fun ls hl => ?_)
              refine lv_iload hx hb dX5_hasIce_71 (lv_at hl 0 rfl) ?_
              refine lv_if_eq (tgt := 104) hx hb dX5_hasIce_73 (by decide) (fun _ => ?_) (fun c => absurd (by decide) c)
              refine lv_iinc (v := iZ (i + 1)) (lv' := [(4, .int (iZ (i + 1))), (8, .int (iZ 0)), (7, .int (iZ (gz g ((i * 4) + 1)))), (6, .int (iZ (gz g ((i * 4) + 0)))), (5, .int (iZ (i * 4))), (0, .ref h), (1, .int (iZ a)), (2, .int (iZ b)), (3, .int (iZ w))]) hx hb dX5_hasIce_104 hl (k := 4) rfl (iZ_add i 1) (by decide) rfl (fun ls hl => ?_)
              refine lv_goto (tgt := 3) hx hb dX5_hasIce_107 (by decide) ?_
              exact ih1  (i + 1) _ (by omega) (by omega) (by omega) (by intro j h1 h2; rcases Int.lt_or_eq_of_le (show j ≤ i by omega) with h3 | h3; exact hi3 j h1 h3; rw [h3]; unfold icR; omega) (lv_sub hl [0, 5, 6, 7, 8] rfl)
            ·
              have c_33 := (zeq (x := iZ (gz g ((i * 4) + 0))) (y := iZ b) rfl rfl ⟨by omega, by omega⟩ ⟨by omega, by omega⟩).mp c_33
              refine lv_iload hx hb dX5_hasIce_58 (lv_at hl 0 rfl) ?_
              refine lv_iload_n hx hb dX5_hasIce_60 rfl (lv_at hl 5 rfl) ?_
              refine lv_icmp_ne (tgt := 68) hx hb dX5_hasIce_61 (by decide) (fun c_35 => ?_) (fun c_35 => ?_)
              ·
                have c_35 := mt (zeq (x := iZ (gz g ((i * 4) + 1))) (y := iZ a) rfl rfl ⟨by omega, by omega⟩ ⟨by omega, by omega⟩).mpr c_35
                refine lv_iconst (v := iZ 0) hx hb dX5_hasIce_68 (by decide) ?_
                refine lv_istore (lv' := [(8, .int (iZ 0)), (7, .int (iZ (gz g ((i * 4) + 1)))), (6, .int (iZ (gz g ((i * 4) + 0)))), (5, .int (iZ (i * 4))), (4, .int (iZ i)), (0, .ref h), (1, .int (iZ a)), (2, .int (iZ b)), (3, .int (iZ w))]) hx hb dX5_hasIce_69 hl (by decide) rfl (fun ls hl => ?_)
                refine lv_iload hx hb dX5_hasIce_71 (lv_at hl 0 rfl) ?_
                refine lv_if_eq (tgt := 104) hx hb dX5_hasIce_73 (by decide) (fun _ => ?_) (fun c => absurd (by decide) c)
                refine lv_iinc (v := iZ (i + 1)) (lv' := [(4, .int (iZ (i + 1))), (8, .int (iZ 0)), (7, .int (iZ (gz g ((i * 4) + 1)))), (6, .int (iZ (gz g ((i * 4) + 0)))), (5, .int (iZ (i * 4))), (0, .ref h), (1, .int (iZ a)), (2, .int (iZ b)), (3, .int (iZ w))]) hx hb dX5_hasIce_104 hl (k := 4) rfl (iZ_add i 1) (by decide) rfl (fun ls hl => ?_)
                refine lv_goto (tgt := 3) hx hb dX5_hasIce_107 (by decide) ?_
                exact ih1  (i + 1) _ (by omega) (by omega) (by omega) (by intro j h1 h2; rcases Int.lt_or_eq_of_le (show j ≤ i by omega) with h3 | h3; exact hi3 j h1 h3; rw [h3]; unfold icR; omega) (lv_sub hl [0, 5, 6, 7, 8] rfl)
              ·
                have c_35 := (zeq (x := iZ (gz g ((i * 4) + 1))) (y := iZ a) rfl rfl ⟨by omega, by omega⟩ ⟨by omega, by omega⟩).mp c_35
                refine lv_iconst (v := iZ 1) hx hb dX5_hasIce_64 (by decide) ?_
                refine lv_goto (tgt := 69) hx hb dX5_hasIce_65 (by decide) ?_
                refine lv_istore (lv' := [(8, .int (iZ 1)), (7, .int (iZ (gz g ((i * 4) + 1)))), (6, .int (iZ (gz g ((i * 4) + 0)))), (5, .int (iZ (i * 4))), (4, .int (iZ i)), (0, .ref h), (1, .int (iZ a)), (2, .int (iZ b)), (3, .int (iZ w))]) hx hb dX5_hasIce_69 hl (by decide) rfl (fun ls hl => ?_)
                refine lv_iload hx hb dX5_hasIce_71 (lv_at hl 0 rfl) ?_
                refine lv_if_eq (tgt := 104) hx hb dX5_hasIce_73 (by decide) (fun c => absurd c (by decide)) (fun _ => ?_)
                refine lv_iload_n hx hb dX5_hasIce_76 rfl (lv_at hl 8 rfl) ?_
                refine lv_aload_n hx hb dX5_hasIce_77 rfl (lv_at hl 5 rfl) ?_
                refine va_get (D := D) (ci := 5) (v := .ref hg) (C := RX5) (T := TX5) (N := 7) hx hb hts iX5 hown hK hP 0 rfl rfl 2 (by decide) (hts _ qf_X5_19) (fun _ h => h) f2 dX5_hasIce_78 ?_
                refine lv_iload hx hb dX5_hasIce_81 (lv_at hl 3 rfl) ?_
                refine lv_iconst (v := iZ 2) hx hb dX5_hasIce_83 (by decide) ?_
                refine lv_iadd hx hb dX5_hasIce_84 ?_
                refine lv_topi (fun x_38 ex_38 => ?_)
                obtain rfl : x_38 = iZ ((i * 4) + 2) := ex_38.trans (iZ_add (i * 4) 2)
                refine va_iald hx hb hK hP 1 1 rfl rfl (zin (e := ((i * 4) + 2)) (n := 32) ⟨by omega, by omega⟩ (by decide)) dX5_hasIce_85 ?_
                refine lv_topi (fun x_39 ex_39 => ?_)
                obtain rfl : x_39 = iZ (gz g ((i * 4) + 2)) := ex_39.trans (gz_eq ⟨by omega, by omega⟩)
                have h_40 := gz_rg g ((i * 4) + 2)
                refine lv_icmp_lt (tgt := 104) hx hb dX5_hasIce_86 (by decide) (fun c_41 => ?_) (fun c_41 => ?_)
                ·
                  have c_41 := (zlt (x := iZ w) (y := iZ (gz g ((i * 4) + 2))) rfl rfl ⟨by omega, by omega⟩ ⟨by omega, by omega⟩).mp c_41
                  refine lv_iinc (v := iZ (i + 1)) (lv' := [(4, .int (iZ (i + 1))), (8, .int (iZ 1)), (7, .int (iZ (gz g ((i * 4) + 1)))), (6, .int (iZ (gz g ((i * 4) + 0)))), (5, .int (iZ (i * 4))), (0, .ref h), (1, .int (iZ a)), (2, .int (iZ b)), (3, .int (iZ w))]) hx hb dX5_hasIce_104 hl (k := 4) rfl (iZ_add i 1) (by decide) rfl (fun ls hl => ?_)
                  refine lv_goto (tgt := 3) hx hb dX5_hasIce_107 (by decide) ?_
                  exact ih1  (i + 1) _ (by omega) (by omega) (by omega) (by intro j h1 h2; rcases Int.lt_or_eq_of_le (show j ≤ i by omega) with h3 | h3; exact hi3 j h1 h3; rw [h3]; unfold icR; omega) (lv_sub hl [0, 5, 6, 7, 8] rfl)
                ·
                  have c_41 := mt (zlt (x := iZ w) (y := iZ (gz g ((i * 4) + 2))) rfl rfl ⟨by omega, by omega⟩ ⟨by omega, by omega⟩).mpr c_41
                  refine lv_iload_n hx hb dX5_hasIce_89 rfl (lv_at hl 8 rfl) ?_
                  refine lv_aload_n hx hb dX5_hasIce_90 rfl (lv_at hl 5 rfl) ?_
                  refine va_get (D := D) (ci := 5) (v := .ref hg) (C := RX5) (T := TX5) (N := 7) hx hb hts iX5 hown hK hP 0 rfl rfl 2 (by decide) (hts _ qf_X5_19) (fun _ h => h) f2 dX5_hasIce_91 ?_
                  refine lv_iload hx hb dX5_hasIce_94 (lv_at hl 3 rfl) ?_
                  refine lv_iconst (v := iZ 3) hx hb dX5_hasIce_96 (by decide) ?_
                  refine lv_iadd hx hb dX5_hasIce_97 ?_
                  refine lv_topi (fun x_42 ex_42 => ?_)
                  obtain rfl : x_42 = iZ ((i * 4) + 3) := ex_42.trans (iZ_add (i * 4) 3)
                  refine va_iald hx hb hK hP 1 1 rfl rfl (zin (e := ((i * 4) + 3)) (n := 32) ⟨by omega, by omega⟩ (by decide)) dX5_hasIce_98 ?_
                  refine lv_topi (fun x_43 ex_43 => ?_)
                  obtain rfl : x_43 = iZ (gz g ((i * 4) + 3)) := ex_43.trans (gz_eq ⟨by omega, by omega⟩)
                  have h_44 := gz_rg g ((i * 4) + 3)
                  refine lv_icmp_gt (tgt := 104) hx hb dX5_hasIce_99 (by decide) (fun c_45 => ?_) (fun c_45 => ?_)
                  ·
                    have c_45 := (zlt (x := iZ (gz g ((i * 4) + 3))) (y := iZ w) rfl rfl ⟨by omega, by omega⟩ ⟨by omega, by omega⟩).mp c_45
                    refine lv_iinc (v := iZ (i + 1)) (lv' := [(4, .int (iZ (i + 1))), (8, .int (iZ 1)), (7, .int (iZ (gz g ((i * 4) + 1)))), (6, .int (iZ (gz g ((i * 4) + 0)))), (5, .int (iZ (i * 4))), (0, .ref h), (1, .int (iZ a)), (2, .int (iZ b)), (3, .int (iZ w))]) hx hb dX5_hasIce_104 hl (k := 4) rfl (iZ_add i 1) (by decide) rfl (fun ls hl => ?_)
                    refine lv_goto (tgt := 3) hx hb dX5_hasIce_107 (by decide) ?_
                    exact ih1  (i + 1) _ (by omega) (by omega) (by omega) (by intro j h1 h2; rcases Int.lt_or_eq_of_le (show j ≤ i by omega) with h3 | h3; exact hi3 j h1 h3; rw [h3]; unfold icR; omega) (lv_sub hl [0, 5, 6, 7, 8] rfl)
                  ·
                    have c_45 := mt (zlt (x := iZ (gz g ((i * 4) + 3))) (y := iZ w) rfl rfl ⟨by omega, by omega⟩ ⟨by omega, by omega⟩).mpr c_45
                    refine lv_iconst (v := iZ 1) hx hb dX5_hasIce_102 (by decide) ?_
                    exact ERz hx hb hr hlocks rfl (by rw [bz_t ⟨i, hi1, by omega, by unfold icR; omega⟩]) dX5_hasIce_103
  exact HL1 10 0 _ (by omega) (by omega) (by omega) (fun j h1 h2 => absurd h1 (by omega)) (lv_sub hl [0, 1, 2, 3, 4] rfl)
/-- the first of the names, or -1 -/
def isNm (g : Nat → Int64) (n : Int) (v : Int64) (z : Int) : Prop := (z = -1 ∧ ∀ j : Int, 0 ≤ j → j < n → ¬ g j.toNat = v) ∨ (0 ≤ z ∧ z < n ∧ g z.toNat = v ∧ ∀ j : Int, 0 ≤ j → j < z → ¬ g j.toNat = v)
theorem lgc_eq {x y : Int64} : lg_cmp x y = 0 ↔ x = y := lg_cmp_eq x y
set_option maxHeartbeats 4000000 in
set_option maxRecDepth 100000 in
theorem k_named (l : Launch) (D : va_G) (k : Nat → ClassId) (h hg : Nat) (fs : List Value) (f0 : fs[0]? = some (.ref hg)) (g : Nat → Int64) (n : Int) (f3 : fs[3]? = some (.int (iZ n))) (hn : 0 ≤ n ∧ n ≤ 6) (v : Int64) : RP l yX5_named cX5_named 4 (some .int) 0 D k [.ref h, .long v] [(h, .inr (5, fs)), (hg, .inl (k 2, 6, .inr (.inl g)))] (fun z => isNm g n v z) := by
  refine MRP (by decide) (Nat.le_of_ble_eq_true rfl) (fun p e s m below meth c ls hx hb hml hr hlocks hts hown hKK hP hl => ?_)
  have hK := hKK.1
  have hl : lv_has ls 4 [(0, .ref h), (1, .long v)] := hl
  refine lv_iconst (v := iZ 0) hx hb dX5_named_0 (by decide) ?_
  refine lv_istore_n (lv' := [(3, .int (iZ 0)), (0, .ref h), (1, .long v)]) hx hb dX5_named_1 rfl hl (by decide) rfl (fun ls hl => ?_)
  have HL1 : ∀ (fu : Nat) (i : Int) (ls : Array Slot), (n + 1 - i) < (fu : Int) → 0 ≤ i → i ≤ n → (∀ j : Int, 0 ≤ j → j < i → ¬ g j.toNat = v) → lv_has ls 4 [(3, .int (iZ i)), (0, .ref h), (1, .long v)] → W p l e (rj 0 0 0) s m [.ref h, .long v].toArray below meth c s.heap [] 0 0 (MQ below (QcP (fun z => isNm g n v z)) [.ref h, .long v].toArray s 0 0 (fun _ => False)) (F0 m 2 ls []) := by
    intro fu
    induction fu with
    | zero => intro i ls hμ1 hi1 hi2 hi3 hl; exact absurd hμ1 (by omega)
    | succ fu ih1 =>
      intro i ls hμ1 hi1 hi2 hi3 hl
      refine lv_iload_n hx hb dX5_named_2 rfl (lv_at hl 0 rfl) ?_
      refine lv_aload_n hx hb dX5_named_3 rfl (lv_at hl 1 rfl) ?_
      refine va_get (D := D) (ci := 5) (v := .int (iZ n)) (C := RX5) (T := TX5) (N := 7) hx hb hts iX5 hown hK hP 0 rfl rfl 3 (by decide) (hts _ qf_X5_22) (fun _ h => h) f3 dX5_named_4 ?_
      refine lv_icmp_ge (tgt := 29) hx hb dX5_named_7 (by decide) (fun c_1 => ?_) (fun c_1 => ?_)
      ·
        have c_1 := (zle (x := iZ n) (y := iZ i) rfl rfl ⟨by omega, by omega⟩ ⟨by omega, by omega⟩).mp c_1
        refine lv_iconst (v := iZ (-1)) hx hb dX5_named_29 (by decide) ?_
        exact EPi hx hb hr hlocks (Or.inl ⟨rfl, fun j h1 h2 => hi3 j h1 (by omega)⟩) dX5_named_30
      ·
        have c_1 := mt (zle (x := iZ n) (y := iZ i) rfl rfl ⟨by omega, by omega⟩ ⟨by omega, by omega⟩).mpr c_1
        refine lv_aload_n hx hb dX5_named_10 rfl (lv_at hl 1 rfl) ?_
        refine va_get (D := D) (ci := 5) (v := .ref hg) (C := RX5) (T := TX5) (N := 7) hx hb hts iX5 hown hK hP 0 rfl rfl 0 (by decide) (hts _ qf_X5_9) (fun _ h => h) f0 dX5_named_11 ?_
        refine lv_iload_n hx hb dX5_named_14 rfl (lv_at hl 0 rfl) ?_
        refine va_lald hx hb hK hP 1 2 rfl rfl (zin (e := i) (n := 6) ⟨by omega, by omega⟩ (by decide)) dX5_named_15 ?_
        refine lv_topl (fun y_2 ey_2 => ?_)
        refine lv_lload_n hx hb dX5_named_16 rfl (lv_at hl 2 rfl) ?_
        refine W.lcmp hx hb dX5_named_17 ?_
        refine lv_if_ne (tgt := 23) hx hb dX5_named_18 (by decide) (fun c_3 => ?_) (fun c_3 => ?_)
        ·
          refine lv_iinc (v := iZ (i + 1)) (lv' := [(3, .int (iZ (i + 1))), (0, .ref h), (1, .long v)]) hx hb dX5_named_23 hl (k := 0) rfl (iZ_add i 1) (by decide) rfl (fun ls hl => ?_)
          refine lv_goto (tgt := 2) hx hb dX5_named_26 (by decide) ?_
          exact ih1  (i + 1) _ (by omega) (by omega) (by omega) (by intro j h1 h2; rcases Int.lt_or_eq_of_le (show j ≤ i by omega) with h3 | h3; exact hi3 j h1 h3; rw [h3]; intro h4; apply c_3; rw [lgc_eq, ey_2, zcl ⟨by omega, by omega⟩]; exact h4) (lv_sub hl [0, 1, 2] rfl)
        ·
          refine lv_iload_n hx hb dX5_named_21 rfl (lv_at hl 0 rfl) ?_
          exact EPi hx hb hr hlocks (Or.inr ⟨hi1, by omega, by rw [← zcl (e := i) ⟨by omega, by omega⟩, ← ey_2]; exact lgc_eq.mp c_3, hi3⟩) dX5_named_22
  exact HL1 8 0 _ (by omega) (by omega) (by omega) (fun j h1 h2 => absurd h1 (by omega)) (lv_sub hl [0, 1, 2] rfl)
