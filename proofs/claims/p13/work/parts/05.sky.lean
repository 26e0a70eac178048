def FXI (f : Nat → Int32) (n : Int) : Prop := ∀ r : Int, 0 ≤ r → r < n → (0 ≤ gz f ((r * 6) + 0) ∧ gz f ((r * 6) + 0) ≤ 20) ∧ (1 ≤ gz f ((r * 6) + 1) ∧ gz f ((r * 6) + 1) ≤ 99) ∧ (0 ≤ gz f ((r * 6) + 2) ∧ gz f ((r * 6) + 2) ≤ 11) ∧ (0 ≤ gz f ((r * 6) + 3) ∧ gz f ((r * 6) + 3) ≤ 9) ∧ (0 ≤ gz f ((r * 6) + 4) ∧ gz f ((r * 6) + 4) ≤ 99) ∧ (0 ≤ gz f ((r * 6) + 5) ∧ gz f ((r * 6) + 5) ≤ 20)
/-- the direction of a rock in a week -/
def hd (f : Nat → Int32) (a w : Int) : Int := (gz f ((a * 6) + 2) + (12 * w) / gz f ((a * 6) + 1)) % 12
def nr (f : Nat → Int32) (a b : Int) : Int := if gz f ((b * 6) + 0) ≤ gz f ((a * 6) + 0) then gz f ((b * 6) + 0) else gz f ((a * 6) + 0)
def fr (f : Nat → Int32) (a b : Int) : Int := if gz f ((b * 6) + 0) ≤ gz f ((a * 6) + 0) then gz f ((a * 6) + 0) else gz f ((b * 6) + 0)
def tn (h g : Int) : Int := if g ≤ h then (h - g) else (g - h)
def sp (h g : Int) : Int := if tn h g ≤ 6 then tn h g else (12 - tn h g)
def lg0 (f : Nat → Int32) (a h b g : Int) : Int := ((fr f a b - nr f a b) + ((sp h g * nr f a b) / 6))
/-- light between two rocks in two directions -/
def ap (f : Nat → Int32) (a h b g : Int) : Int := if a = b then 0 else if 1 ≤ lg0 f a h b g then lg0 f a h b g else 1
theorem ap_rg {f : Nat → Int32} {n a h b g : Int} (hx0 : FXI f n) (ha : 0 ≤ a ∧ a < n) (hb : 0 ≤ b ∧ b < n) (hh : 0 ≤ h ∧ h ≤ 11) (hg : 0 ≤ g ∧ g ≤ 11) : 0 ≤ ap f a h b g ∧ ap f a h b g ≤ 20 := by
  have h1 := (hx0 a ha.1 ha.2).1
  have h2 := (hx0 b hb.1 hb.2).1
  have hs : 0 ≤ sp h g ∧ sp h g ≤ 6 := by
    unfold sp tn
    split <;> split <;> omega
  have hq : 0 ≤ nr f a b ∧ fr f a b ≤ 20 ∧ nr f a b ≤ fr f a b ∧ nr f a b ≤ 20 := by
    unfold nr fr
    split <;> omega
  have h3 : 0 ≤ sp h g * nr f a b ∧ sp h g * nr f a b ≤ 6 * nr f a b := ⟨Int.mul_nonneg hs.1 hq.1, Int.mul_le_mul_of_nonneg_right hs.2 hq.1⟩
  have hl : 0 ≤ lg0 f a h b g ∧ lg0 f a h b g ≤ 20 := by
    unfold lg0
    omega
  unfold ap
  split
  · omega
  · split <;> omega
theorem hd_rg (f : Nat → Int32) (a w : Int) : 0 ≤ hd f a w ∧ hd f a w ≤ 11 := by unfold hd; omega
set_option maxHeartbeats 4000000 in
set_option maxRecDepth 100000 in
theorem k_heading (l : Launch) (D : va_G) (k : Nat → ClassId) (h hf : Nat) (fs : List Value) (f1 : fs[1]? = some (.ref hf)) (f : Nat → Int32) (n : Int) (hn : n ≤ 6) (hx0 : FXI f n) (a w : Int) (ha : 0 ≤ a ∧ a < n) (hw : 0 ≤ w ∧ w ≤ 1000) : RD l yX5_heading cX5_heading 5 (some .int) 0 D k [.ref h, .int (iZ a), .int (iZ w)] [(h, .inr (5, fs)), (hf, .inl (k 1, 36, .inl f))] (iZ (hd f a w)) := by
  refine MR (by decide) (Nat.le_of_ble_eq_true rfl) (fun p e s m below meth c ls hx hb hml hr hlocks hts hown hKK hP hl => ?_)
  have hK := hKK.1
  have hl : lv_has ls 5 [(0, .ref h), (1, .int (iZ a)), (2, .int (iZ w))] := hl
  have hfx := hx0 a ha.1 ha.2
  refine lv_aload_n hx hb dX5_heading_0 rfl (lv_at hl 0 rfl) ?_
  refine va_get (D := D) (ci := 5) (v := .ref hf) (C := RX5) (T := TX5) (N := 7) hx hb hts iX5 hown hK hP 0 rfl rfl 1 (bl rfl) (hts _ qf_X5_15) (fun _ h => h) f1 dX5_heading_1 ?_
  refine lv_iload_n hx hb dX5_heading_4 rfl (lv_at hl 1 rfl) ?_
  refine lv_bipush (v := iZ 6) hx hb dX5_heading_5 bip_6 ?_
  refine lv_imul hx hb dX5_heading_7 ?_
  refine lv_topi (fun x_1 ex_1 => ?_)
  obtain rfl : x_1 = iZ (a * 6) := ex_1.trans (iZ_mul a 6)
  refine lv_iconst (v := iZ 1) hx hb dX5_heading_8 rfl ?_
  refine lv_iadd hx hb dX5_heading_9 ?_
  refine lv_topi (fun x_2 ex_2 => ?_)
  obtain rfl : x_2 = iZ ((a * 6) + 1) := ex_2.trans (iZ_add (a * 6) 1)
  refine va_iald hx hb hK hP 1 1 rfl rfl (zin (e := ((a * 6) + 1)) (n := 36) ⟨by omega, by omega⟩ (bl rfl)) dX5_heading_10 ?_
  refine lv_topi (fun x_3 ex_3 => ?_)
  obtain rfl : x_3 = iZ (gz f ((a * 6) + 1)) := ex_3.trans (gz_eq ⟨by omega, by omega⟩)
  have h_4 := gz_rg f ((a * 6) + 1)
  refine lv_istore_n (lv' := [(3, .int (iZ (gz f ((a * 6) + 1)))), (0, .ref h), (1, .int (iZ a)), (2, .int (iZ w))]) hx hb dX5_heading_11 rfl hl (bl rfl) rfl (fun ls hl => ?_)
  refine lv_iload_n hx hb dX5_heading_12 rfl (lv_at hl 0 rfl) ?_
  refine lv_iconst (v := iZ 1) hx hb dX5_heading_13 rfl ?_
  refine lv_icmp_ge (tgt := 21) hx hb dX5_heading_14 rfl (fun c_5 => ?_) (fun c_5 => ?_)
  ·
    have c_5 := (zle (x := iZ 1) (y := iZ (gz f ((a * 6) + 1))) rfl rfl wn_1 (gz_rg f ((a * 6) + 1))).mp c_5
    refine lv_bipush (v := iZ 12) hx hb dX5_heading_21 bip_12 ?_
    refine lv_iload_n hx hb dX5_heading_23 rfl (lv_at hl 3 rfl) ?_
    refine lv_imul hx hb dX5_heading_24 ?_
    refine lv_topi (fun x_6 ex_6 => ?_)
    obtain rfl : x_6 = iZ (12 * w) := ex_6.trans (iZ_mul 12 w)
    refine lv_iload_n hx hb dX5_heading_25 rfl (lv_at hl 0 rfl) ?_
    refine lv_idiv hx hb dX5_heading_26 (by rw [zne rfl ⟨by omega, by omega⟩]; omega) ?_
    have hd_26 := zdiv_b (a := (12 * w)) (b := (gz f ((a * 6) + 1))) (by omega) (by omega)
    refine lv_topi (fun x_7 ex_7 => ?_)
    obtain rfl : x_7 = iZ ((12 * w) / (gz f ((a * 6) + 1))) := ex_7.trans (iZ_div (a := (12 * w)) (b := (gz f ((a * 6) + 1))) (by omega) (by omega) (by omega) (by omega))
    refine lv_istore (lv' := [(4, .int (iZ ((12 * w) / (gz f ((a * 6) + 1))))), (3, .int (iZ (gz f ((a * 6) + 1)))), (0, .ref h), (1, .int (iZ a)), (2, .int (iZ w))]) hx hb dX5_heading_27 hl (bl rfl) rfl (fun ls hl => ?_)
    refine lv_aload_n hx hb dX5_heading_29 rfl (lv_at hl 2 rfl) ?_
    refine va_get (D := D) (ci := 5) (v := .ref hf) (C := RX5) (T := TX5) (N := 7) hx hb hts iX5 hown hK hP 0 rfl rfl 1 (bl rfl) (hts _ qf_X5_15) (fun _ h => h) f1 dX5_heading_30 ?_
    refine lv_iload_n hx hb dX5_heading_33 rfl (lv_at hl 3 rfl) ?_
    refine lv_bipush (v := iZ 6) hx hb dX5_heading_34 bip_6 ?_
    refine lv_imul hx hb dX5_heading_36 ?_
    refine lv_topi (fun x_8 ex_8 => ?_)
    obtain rfl : x_8 = iZ (a * 6) := ex_8.trans (iZ_mul a 6)
    refine lv_iconst (v := iZ 2) hx hb dX5_heading_37 rfl ?_
    refine lv_iadd hx hb dX5_heading_38 ?_
    refine lv_topi (fun x_9 ex_9 => ?_)
    obtain rfl : x_9 = iZ ((a * 6) + 2) := ex_9.trans (iZ_add (a * 6) 2)
    refine va_iald hx hb hK hP 1 1 rfl rfl (zin (e := ((a * 6) + 2)) (n := 36) ⟨by omega, by omega⟩ (bl rfl)) dX5_heading_39 ?_
    refine lv_topi (fun x_10 ex_10 => ?_)
    obtain rfl : x_10 = iZ (gz f ((a * 6) + 2)) := ex_10.trans (gz_eq ⟨by omega, by omega⟩)
    have h_11 := gz_rg f ((a * 6) + 2)
    refine lv_iload hx hb dX5_heading_40 (lv_at hl 0 rfl) ?_
    refine lv_iadd hx hb dX5_heading_42 ?_
    refine lv_topi (fun x_12 ex_12 => ?_)
    obtain rfl : x_12 = iZ ((gz f ((a * 6) + 2)) + ((12 * w) / (gz f ((a * 6) + 1)))) := ex_12.trans (iZ_add (gz f ((a * 6) + 2)) ((12 * w) / (gz f ((a * 6) + 1))))
    refine lv_bipush (v := iZ 12) hx hb dX5_heading_43 bip_12 ?_
    refine lv_irem hx hb dX5_heading_45 (by rw [zne rfl ⟨by omega, by omega⟩]; omega) ?_
    refine lv_topi (fun x_13 ex_13 => ?_)
    obtain rfl : x_13 = iZ (((gz f ((a * 6) + 2)) + ((12 * w) / (gz f ((a * 6) + 1)))) % 12) := ex_13.trans (iZ_rem (a := ((gz f ((a * 6) + 2)) + ((12 * w) / (gz f ((a * 6) + 1))))) (b := 12) (by omega) (by omega) (by omega) (by omega))
    exact ERi hx hb hr hlocks rfl dX5_heading_46
  ·
    have c_5 := mt (zle (x := iZ 1) (y := iZ (gz f ((a * 6) + 1))) rfl rfl wn_1 (gz_rg f ((a * 6) + 1))).mpr c_5
    exact absurd c_5 (by omega)
set_option maxHeartbeats 4000000 in
set_option maxRecDepth 100000 in
theorem k_apart (l : Launch) (D : va_G) (k : Nat → ClassId) (h hf : Nat) (fs : List Value) (f1 : fs[1]? = some (.ref hf)) (f : Nat → Int32) (n : Int) (hn : n ≤ 6) (hx0 : FXI f n) (a h1 b g1 : Int) (ha : 0 ≤ a ∧ a < n) (hb0 : 0 ≤ b ∧ b < n) (hh : 0 ≤ h1 ∧ h1 ≤ 11) (hg : 0 ≤ g1 ∧ g1 ≤ 11) : RD l yX5_apart cX5_apart 12 (some .int) 0 D k [.ref h, .int (iZ a), .int (iZ h1), .int (iZ b), .int (iZ g1)] [(h, .inr (5, fs)), (hf, .inl (k 1, 36, .inl f))] (iZ (ap f a h1 b g1)) := by
  refine MR (by decide) (Nat.le_of_ble_eq_true rfl) (fun p e s m below meth c ls hx hb hml hr hlocks hts hown hKK hP hl => ?_)
  have hK := hKK.1
  have hl : lv_has ls 12 [(0, .ref h), (1, .int (iZ a)), (2, .int (iZ h1)), (3, .int (iZ b)), (4, .int (iZ g1))] := hl
  have hfa := (hx0 a ha.1 ha.2).1
  have hfb := (hx0 b hb0.1 hb0.2).1
  refine lv_iload_n hx hb dX5_apart_0 rfl (lv_at hl 1 rfl) ?_
  refine lv_iload_n hx hb dX5_apart_1 rfl (lv_at hl 3 rfl) ?_
  refine lv_icmp_ne (tgt := 7) hx hb dX5_apart_2 rfl (fun c_1 => ?_) (fun c_1 => ?_)
  ·
    have c_1 := mt (zeq (x := iZ a) (y := iZ b) rfl rfl ⟨by omega, by omega⟩ ⟨by omega, by omega⟩).mpr c_1
    refine lv_aload_n hx hb dX5_apart_7 rfl (lv_at hl 0 rfl) ?_
    refine va_get (D := D) (ci := 5) (v := .ref hf) (C := RX5) (T := TX5) (N := 7) hx hb hts iX5 hown hK hP 0 rfl rfl 1 (bl rfl) (hts _ qf_X5_15) (fun _ h => h) f1 dX5_apart_8 ?_
    refine lv_iload_n hx hb dX5_apart_11 rfl (lv_at hl 1 rfl) ?_
    refine lv_bipush (v := iZ 6) hx hb dX5_apart_12 bip_6 ?_
    refine lv_imul hx hb dX5_apart_14 ?_
    refine lv_topi (fun x_2 ex_2 => ?_)
    obtain rfl : x_2 = iZ (a * 6) := ex_2.trans (iZ_mul a 6)
    refine lv_iconst (v := iZ 0) hx hb dX5_apart_15 rfl ?_
    refine lv_iadd hx hb dX5_apart_16 ?_
    refine lv_topi (fun x_3 ex_3 => ?_)
    obtain rfl : x_3 = iZ ((a * 6) + 0) := ex_3.trans (iZ_add (a * 6) 0)
    refine va_iald hx hb hK hP 1 1 rfl rfl (zin (e := ((a * 6) + 0)) (n := 36) ⟨by omega, by omega⟩ (bl rfl)) dX5_apart_17 ?_
    refine lv_topi (fun x_4 ex_4 => ?_)
    obtain rfl : x_4 = iZ (gz f ((a * 6) + 0)) := ex_4.trans (gz_eq ⟨by omega, by omega⟩)
    have h_5 := gz_rg f ((a * 6) + 0)
    refine lv_istore (lv' := [(5, .int (iZ (gz f ((a * 6) + 0)))), (0, .ref h), (1, .int (iZ a)), (2, .int (iZ h1)), (3, .int (iZ b)), (4, .int (iZ g1))]) hx hb dX5_apart_18 hl (bl rfl) rfl (fun ls hl => ?_)
    refine lv_aload_n hx hb dX5_apart_20 rfl (lv_at hl 1 rfl) ?_
    refine va_get (D := D) (ci := 5) (v := .ref hf) (C := RX5) (T := TX5) (N := 7) hx hb hts iX5 hown hK hP 0 rfl rfl 1 (bl rfl) (hts _ qf_X5_15) (fun _ h => h) f1 dX5_apart_21 ?_
    refine lv_iload_n hx hb dX5_apart_24 rfl (lv_at hl 4 rfl) ?_
    refine lv_bipush (v := iZ 6) hx hb dX5_apart_25 bip_6 ?_
    refine lv_imul hx hb dX5_apart_27 ?_
    refine lv_topi (fun x_6 ex_6 => ?_)
    obtain rfl : x_6 = iZ (b * 6) := ex_6.trans (iZ_mul b 6)
    refine lv_iconst (v := iZ 0) hx hb dX5_apart_28 rfl ?_
    refine lv_iadd hx hb dX5_apart_29 ?_
    refine lv_topi (fun x_7 ex_7 => ?_)
    obtain rfl : x_7 = iZ ((b * 6) + 0) := ex_7.trans (iZ_add (b * 6) 0)
    refine va_iald hx hb hK hP 1 1 rfl rfl (zin (e := ((b * 6) + 0)) (n := 36) ⟨by omega, by omega⟩ (bl rfl)) dX5_apart_30 ?_
    refine lv_topi (fun x_8 ex_8 => ?_)
    obtain rfl : x_8 = iZ (gz f ((b * 6) + 0)) := ex_8.trans (gz_eq ⟨by omega, by omega⟩)
    have h_9 := gz_rg f ((b * 6) + 0)
    refine lv_istore (lv' := [(6, .int (iZ (gz f ((b * 6) + 0)))), (5, .int (iZ (gz f ((a * 6) + 0)))), (0, .ref h), (1, .int (iZ a)), (2, .int (iZ h1)), (3, .int (iZ b)), (4, .int (iZ g1))]) hx hb dX5_apart_31 hl (bl rfl) rfl (fun ls hl => ?_)
    refine lv_iload hx hb dX5_apart_33 (lv_at hl 1 rfl) ?_
    refine lv_iload hx hb dX5_apart_35 (lv_at hl 0 rfl) ?_
    refine lv_icmp_ge (tgt := 45) hx hb dX5_apart_37 rfl (fun c_10 => ?_) (fun c_10 => ?_)
    ·
      have c_10 := (zle (x := iZ (gz f ((b * 6) + 0))) (y := iZ (gz f ((a * 6) + 0))) rfl rfl (gz_rg f ((b * 6) + 0)) (gz_rg f ((a * 6) + 0))).mp c_10
      refine lv_iload hx hb dX5_apart_45 (lv_at hl 0 rfl) ?_
      refine lv_istore (lv' := [(7, .int (iZ (gz f ((b * 6) + 0)))), (6, .int (iZ (gz f ((b * 6) + 0)))), (5, .int (iZ (gz f ((a * 6) + 0)))), (0, .ref h), (1, .int (iZ a)), (2, .int (iZ h1)), (3, .int (iZ b)), (4, .int (iZ g1))]) hx hb dX5_apart_47 hl (bl rfl) rfl (fun ls hl => ?_)
      refine lv_iload hx hb dX5_apart_49 (lv_at hl 2 rfl) ?_
      refine lv_iload hx hb dX5_apart_51 (lv_at hl 1 rfl) ?_
      refine lv_icmp_ge (tgt := 61) hx hb dX5_apart_53 rfl (fun c_11 => ?_) (fun c_11 => ?_)
      ·
        have c_11 := (zle (x := iZ (gz f ((b * 6) + 0))) (y := iZ (gz f ((a * 6) + 0))) rfl rfl (gz_rg f ((b * 6) + 0)) (gz_rg f ((a * 6) + 0))).mp c_11
        refine lv_iload hx hb dX5_apart_61 (lv_at hl 2 rfl) ?_
        refine lv_istore (lv' := [(8, .int (iZ (gz f ((a * 6) + 0)))), (7, .int (iZ (gz f ((b * 6) + 0)))), (6, .int (iZ (gz f ((b * 6) + 0)))), (5, .int (iZ (gz f ((a * 6) + 0)))), (0, .ref h), (1, .int (iZ a)), (2, .int (iZ h1)), (3, .int (iZ b)), (4, .int (iZ g1))]) hx hb dX5_apart_63 hl (bl rfl) rfl (fun ls hl => ?_)
        refine lv_iload_n hx hb dX5_apart_65 rfl (lv_at hl 6 rfl) ?_
        refine lv_iload hx hb dX5_apart_66 (lv_at hl 8 rfl) ?_
        refine lv_icmp_ge (tgt := 78) hx hb dX5_apart_68 rfl (fun c_12 => ?_) (fun c_12 => ?_)
        ·
          have c_12 := (zle (x := iZ g1) (y := iZ h1) rfl rfl ⟨by omega, by omega⟩ ⟨by omega, by omega⟩).mp c_12
          refine lv_iload_n hx hb dX5_apart_78 rfl (lv_at hl 6 rfl) ?_
          refine lv_iload hx hb dX5_apart_79 (lv_at hl 8 rfl) ?_
          refine lv_isub hx hb dX5_apart_81 ?_
          refine lv_topi (fun x_13 ex_13 => ?_)
          obtain rfl : x_13 = iZ (h1 - g1) := ex_13.trans (iZ_sub h1 g1)
          refine lv_istore (lv' := [(9, .int (iZ (h1 - g1))), (8, .int (iZ (gz f ((a * 6) + 0)))), (7, .int (iZ (gz f ((b * 6) + 0)))), (6, .int (iZ (gz f ((b * 6) + 0)))), (5, .int (iZ (gz f ((a * 6) + 0)))), (0, .ref h), (1, .int (iZ a)), (2, .int (iZ h1)), (3, .int (iZ b)), (4, .int (iZ g1))]) hx hb dX5_apart_82 hl (bl rfl) rfl (fun ls hl => ?_)
          refine lv_iload hx hb dX5_apart_84 (lv_at hl 0 rfl) ?_
          refine lv_bipush (v := iZ 6) hx hb dX5_apart_86 bip_6 ?_
          refine lv_icmp_le (tgt := 99) hx hb dX5_apart_88 rfl (fun c_14 => ?_) (fun c_14 => ?_)
          ·
            have c_14 := (zle (x := iZ (h1 - g1)) (y := iZ 6) rfl rfl ⟨by omega, by omega⟩ wn_6).mp c_14
            refine lv_iload hx hb dX5_apart_99 (lv_at hl 0 rfl) ?_
            refine lv_istore (lv' := [(10, .int (iZ (h1 - g1))), (9, .int (iZ (h1 - g1))), (8, .int (iZ (gz f ((a * 6) + 0)))), (7, .int (iZ (gz f ((b * 6) + 0)))), (6, .int (iZ (gz f ((b * 6) + 0)))), (5, .int (iZ (gz f ((a * 6) + 0)))), (0, .ref h), (1, .int (iZ a)), (2, .int (iZ h1)), (3, .int (iZ b)), (4, .int (iZ g1))]) hx hb dX5_apart_101 hl (bl rfl) rfl (fun ls hl => ?_)
            refine lv_iload hx hb dX5_apart_103 (lv_at hl 2 rfl) ?_
            refine lv_iload hx hb dX5_apart_105 (lv_at hl 3 rfl) ?_
            refine lv_isub hx hb dX5_apart_107 ?_
            refine lv_topi (fun x_15 ex_15 => ?_)
            obtain rfl : x_15 = iZ ((gz f ((a * 6) + 0)) - (gz f ((b * 6) + 0))) := ex_15.trans (iZ_sub (gz f ((a * 6) + 0)) (gz f ((b * 6) + 0)))
            refine lv_iload hx hb dX5_apart_108 (lv_at hl 0 rfl) ?_
            refine lv_iload hx hb dX5_apart_110 (lv_at hl 3 rfl) ?_
            have hm_112 := mul_b (a := (h1 - g1)) (b := (gz f ((b * 6) + 0))) (A := 6) (B := 20) (by omega) (by omega) (by omega) (by omega)
            refine lv_imul hx hb dX5_apart_112 ?_
            refine lv_topi (fun x_16 ex_16 => ?_)
            obtain rfl : x_16 = iZ ((h1 - g1) * (gz f ((b * 6) + 0))) := ex_16.trans (iZ_mul (h1 - g1) (gz f ((b * 6) + 0)))
            refine lv_bipush (v := iZ 6) hx hb dX5_apart_113 bip_6 ?_
            refine lv_idiv hx hb dX5_apart_115 (by rw [zne rfl ⟨by omega, by omega⟩]; omega) ?_
            have hd_115 := zdiv_b (a := ((h1 - g1) * (gz f ((b * 6) + 0)))) (b := 6) (by omega) (by omega)
            refine lv_topi (fun x_17 ex_17 => ?_)
            obtain rfl : x_17 = iZ (((h1 - g1) * (gz f ((b * 6) + 0))) / 6) := ex_17.trans (iZ_div (a := ((h1 - g1) * (gz f ((b * 6) + 0)))) (b := 6) (by omega) (by omega) (by omega) (by omega))
            refine lv_iadd hx hb dX5_apart_116 ?_
            refine lv_topi (fun x_18 ex_18 => ?_)
            obtain rfl : x_18 = iZ (((gz f ((a * 6) + 0)) - (gz f ((b * 6) + 0))) + (((h1 - g1) * (gz f ((b * 6) + 0))) / 6)) := ex_18.trans (iZ_add ((gz f ((a * 6) + 0)) - (gz f ((b * 6) + 0))) (((h1 - g1) * (gz f ((b * 6) + 0))) / 6))
            refine lv_istore (lv' := [(11, .int (iZ (((gz f ((a * 6) + 0)) - (gz f ((b * 6) + 0))) + (((h1 - g1) * (gz f ((b * 6) + 0))) / 6)))), (10, .int (iZ (h1 - g1))), (9, .int (iZ (h1 - g1))), (8, .int (iZ (gz f ((a * 6) + 0)))), (7, .int (iZ (gz f ((b * 6) + 0)))), (6, .int (iZ (gz f ((b * 6) + 0)))), (5, .int (iZ (gz f ((a * 6) + 0)))), (0, .ref h), (1, .int (iZ a)), (2, .int (iZ h1)), (3, .int (iZ b)), (4, .int (iZ g1))]) hx hb dX5_apart_117 hl (bl rfl) rfl (fun ls hl => ?_)
            refine lv_iload hx hb dX5_apart_119 (lv_at hl 0 rfl) ?_
            refine lv_iconst (v := iZ 1) hx hb dX5_apart_121 rfl ?_
            refine lv_icmp_ge (tgt := 129) hx hb dX5_apart_122 rfl (fun c_19 => ?_) (fun c_19 => ?_)
            ·
              have c_19 := (zle (x := iZ 1) (y := iZ (((gz f ((a * 6) + 0)) - (gz f ((b * 6) + 0))) + (((h1 - g1) * (gz f ((b * 6) + 0))) / 6))) rfl rfl wn_1 ⟨by omega, by omega⟩).mp c_19
              refine lv_iload hx hb dX5_apart_129 (lv_at hl 0 rfl) ?_
              exact ERi hx hb hr hlocks (congrArg iZ (by simp only [ap, lg0, nr, fr, sp, tn, c_1, c_10, c_11, c_12, c_14, c_19, if_true, if_false])) dX5_apart_131
            ·
              have c_19 := mt (zle (x := iZ 1) (y := iZ (((gz f ((a * 6) + 0)) - (gz f ((b * 6) + 0))) + (((h1 - g1) * (gz f ((b * 6) + 0))) / 6))) rfl rfl wn_1 ⟨by omega, by omega⟩).mpr c_19
              refine lv_iconst (v := iZ 1) hx hb dX5_apart_125 rfl ?_
              refine lv_goto (tgt := 131) hx hb dX5_apart_126 rfl ?_
              exact ERi hx hb hr hlocks (congrArg iZ (by simp only [ap, lg0, nr, fr, sp, tn, c_1, c_10, c_11, c_12, c_14, c_19, if_true, if_false])) dX5_apart_131
          ·
            have c_14 := mt (zle (x := iZ (h1 - g1)) (y := iZ 6) rfl rfl ⟨by omega, by omega⟩ wn_6).mpr c_14
            refine lv_bipush (v := iZ 12) hx hb dX5_apart_91 bip_12 ?_
            refine lv_iload hx hb dX5_apart_93 (lv_at hl 0 rfl) ?_
            refine lv_isub hx hb dX5_apart_95 ?_
            refine lv_topi (fun x_20 ex_20 => ?_)
            obtain rfl : x_20 = iZ (12 - (h1 - g1)) := ex_20.trans (iZ_sub 12 (h1 - g1))
            refine lv_goto (tgt := 101) hx hb dX5_apart_96 rfl ?_
            refine lv_istore (lv' := [(10, .int (iZ (12 - (h1 - g1)))), (9, .int (iZ (h1 - g1))), (8, .int (iZ (gz f ((a * 6) + 0)))), (7, .int (iZ (gz f ((b * 6) + 0)))), (6, .int (iZ (gz f ((b * 6) + 0)))), (5, .int (iZ (gz f ((a * 6) + 0)))), (0, .ref h), (1, .int (iZ a)), (2, .int (iZ h1)), (3, .int (iZ b)), (4, .int (iZ g1))]) hx hb dX5_apart_101 hl (bl rfl) rfl (fun ls hl => ?_)
            refine lv_iload hx hb dX5_apart_103 (lv_at hl 2 rfl) ?_
            refine lv_iload hx hb dX5_apart_105 (lv_at hl 3 rfl) ?_
            refine lv_isub hx hb dX5_apart_107 ?_
            refine lv_topi (fun x_21 ex_21 => ?_)
            obtain rfl : x_21 = iZ ((gz f ((a * 6) + 0)) - (gz f ((b * 6) + 0))) := ex_21.trans (iZ_sub (gz f ((a * 6) + 0)) (gz f ((b * 6) + 0)))
            refine lv_iload hx hb dX5_apart_108 (lv_at hl 0 rfl) ?_
            refine lv_iload hx hb dX5_apart_110 (lv_at hl 3 rfl) ?_
            have hm_112 := mul_b (a := (12 - (h1 - g1))) (b := (gz f ((b * 6) + 0))) (A := 6) (B := 20) (by omega) (by omega) (by omega) (by omega)
            refine lv_imul hx hb dX5_apart_112 ?_
            refine lv_topi (fun x_22 ex_22 => ?_)
            obtain rfl : x_22 = iZ ((12 - (h1 - g1)) * (gz f ((b * 6) + 0))) := ex_22.trans (iZ_mul (12 - (h1 - g1)) (gz f ((b * 6) + 0)))
            refine lv_bipush (v := iZ 6) hx hb dX5_apart_113 bip_6 ?_
            refine lv_idiv hx hb dX5_apart_115 (by rw [zne rfl ⟨by omega, by omega⟩]; omega) ?_
            have hd_115 := zdiv_b (a := ((12 - (h1 - g1)) * (gz f ((b * 6) + 0)))) (b := 6) (by omega) (by omega)
            refine lv_topi (fun x_23 ex_23 => ?_)
            obtain rfl : x_23 = iZ (((12 - (h1 - g1)) * (gz f ((b * 6) + 0))) / 6) := ex_23.trans (iZ_div (a := ((12 - (h1 - g1)) * (gz f ((b * 6) + 0)))) (b := 6) (by omega) (by omega) (by omega) (by omega))
            refine lv_iadd hx hb dX5_apart_116 ?_
            refine lv_topi (fun x_24 ex_24 => ?_)
            obtain rfl : x_24 = iZ (((gz f ((a * 6) + 0)) - (gz f ((b * 6) + 0))) + (((12 - (h1 - g1)) * (gz f ((b * 6) + 0))) / 6)) := ex_24.trans (iZ_add ((gz f ((a * 6) + 0)) - (gz f ((b * 6) + 0))) (((12 - (h1 - g1)) * (gz f ((b * 6) + 0))) / 6))
            refine lv_istore (lv' := [(11, .int (iZ (((gz f ((a * 6) + 0)) - (gz f ((b * 6) + 0))) + (((12 - (h1 - g1)) * (gz f ((b * 6) + 0))) / 6)))), (10, .int (iZ (12 - (h1 - g1)))), (9, .int (iZ (h1 - g1))), (8, .int (iZ (gz f ((a * 6) + 0)))), (7, .int (iZ (gz f ((b * 6) + 0)))), (6, .int (iZ (gz f ((b * 6) + 0)))), (5, .int (iZ (gz f ((a * 6) + 0)))), (0, .ref h), (1, .int (iZ a)), (2, .int (iZ h1)), (3, .int (iZ b)), (4, .int (iZ g1))]) hx hb dX5_apart_117 hl (bl rfl) rfl (fun ls hl => ?_)
            refine lv_iload hx hb dX5_apart_119 (lv_at hl 0 rfl) ?_
            refine lv_iconst (v := iZ 1) hx hb dX5_apart_121 rfl ?_
            refine lv_icmp_ge (tgt := 129) hx hb dX5_apart_122 rfl (fun c_25 => ?_) (fun c_25 => ?_)
            ·
              have c_25 := (zle (x := iZ 1) (y := iZ (((gz f ((a * 6) + 0)) - (gz f ((b * 6) + 0))) + (((12 - (h1 - g1)) * (gz f ((b * 6) + 0))) / 6))) rfl rfl wn_1 ⟨by omega, by omega⟩).mp c_25
              refine lv_iload hx hb dX5_apart_129 (lv_at hl 0 rfl) ?_
              exact ERi hx hb hr hlocks (congrArg iZ (by simp only [ap, lg0, nr, fr, sp, tn, c_1, c_10, c_11, c_12, c_14, c_25, if_true, if_false])) dX5_apart_131
            ·
              have c_25 := mt (zle (x := iZ 1) (y := iZ (((gz f ((a * 6) + 0)) - (gz f ((b * 6) + 0))) + (((12 - (h1 - g1)) * (gz f ((b * 6) + 0))) / 6))) rfl rfl wn_1 ⟨by omega, by omega⟩).mpr c_25
              refine lv_iconst (v := iZ 1) hx hb dX5_apart_125 rfl ?_
              refine lv_goto (tgt := 131) hx hb dX5_apart_126 rfl ?_
              exact ERi hx hb hr hlocks (congrArg iZ (by simp only [ap, lg0, nr, fr, sp, tn, c_1, c_10, c_11, c_12, c_14, c_25, if_true, if_false])) dX5_apart_131
        ·
          have c_12 := mt (zle (x := iZ g1) (y := iZ h1) rfl rfl ⟨by omega, by omega⟩ ⟨by omega, by omega⟩).mpr c_12
          refine lv_iload hx hb dX5_apart_71 (lv_at hl 8 rfl) ?_
          refine lv_iload_n hx hb dX5_apart_73 rfl (lv_at hl 6 rfl) ?_
          refine lv_isub hx hb dX5_apart_74 ?_
          refine lv_topi (fun x_26 ex_26 => ?_)
          obtain rfl : x_26 = iZ (g1 - h1) := ex_26.trans (iZ_sub g1 h1)
          refine lv_goto (tgt := 82) hx hb dX5_apart_75 rfl ?_
          refine lv_istore (lv' := [(9, .int (iZ (g1 - h1))), (8, .int (iZ (gz f ((a * 6) + 0)))), (7, .int (iZ (gz f ((b * 6) + 0)))), (6, .int (iZ (gz f ((b * 6) + 0)))), (5, .int (iZ (gz f ((a * 6) + 0)))), (0, .ref h), (1, .int (iZ a)), (2, .int (iZ h1)), (3, .int (iZ b)), (4, .int (iZ g1))]) hx hb dX5_apart_82 hl (bl rfl) rfl (fun ls hl => ?_)
          refine lv_iload hx hb dX5_apart_84 (lv_at hl 0 rfl) ?_
          refine lv_bipush (v := iZ 6) hx hb dX5_apart_86 bip_6 ?_
          refine lv_icmp_le (tgt := 99) hx hb dX5_apart_88 rfl (fun c_27 => ?_) (fun c_27 => ?_)
          ·
            have c_27 := (zle (x := iZ (g1 - h1)) (y := iZ 6) rfl rfl ⟨by omega, by omega⟩ wn_6).mp c_27
            refine lv_iload hx hb dX5_apart_99 (lv_at hl 0 rfl) ?_
            refine lv_istore (lv' := [(10, .int (iZ (g1 - h1))), (9, .int (iZ (g1 - h1))), (8, .int (iZ (gz f ((a * 6) + 0)))), (7, .int (iZ (gz f ((b * 6) + 0)))), (6, .int (iZ (gz f ((b * 6) + 0)))), (5, .int (iZ (gz f ((a * 6) + 0)))), (0, .ref h), (1, .int (iZ a)), (2, .int (iZ h1)), (3, .int (iZ b)), (4, .int (iZ g1))]) hx hb dX5_apart_101 hl (bl rfl) rfl (fun ls hl => ?_)
            refine lv_iload hx hb dX5_apart_103 (lv_at hl 2 rfl) ?_
            refine lv_iload hx hb dX5_apart_105 (lv_at hl 3 rfl) ?_
            refine lv_isub hx hb dX5_apart_107 ?_
            refine lv_topi (fun x_28 ex_28 => ?_)
            obtain rfl : x_28 = iZ ((gz f ((a * 6) + 0)) - (gz f ((b * 6) + 0))) := ex_28.trans (iZ_sub (gz f ((a * 6) + 0)) (gz f ((b * 6) + 0)))
            refine lv_iload hx hb dX5_apart_108 (lv_at hl 0 rfl) ?_
            refine lv_iload hx hb dX5_apart_110 (lv_at hl 3 rfl) ?_
            have hm_112 := mul_b (a := (g1 - h1)) (b := (gz f ((b * 6) + 0))) (A := 6) (B := 20) (by omega) (by omega) (by omega) (by omega)
            refine lv_imul hx hb dX5_apart_112 ?_
            refine lv_topi (fun x_29 ex_29 => ?_)
            obtain rfl : x_29 = iZ ((g1 - h1) * (gz f ((b * 6) + 0))) := ex_29.trans (iZ_mul (g1 - h1) (gz f ((b * 6) + 0)))
            refine lv_bipush (v := iZ 6) hx hb dX5_apart_113 bip_6 ?_
            refine lv_idiv hx hb dX5_apart_115 (by rw [zne rfl ⟨by omega, by omega⟩]; omega) ?_
            have hd_115 := zdiv_b (a := ((g1 - h1) * (gz f ((b * 6) + 0)))) (b := 6) (by omega) (by omega)
            refine lv_topi (fun x_30 ex_30 => ?_)
            obtain rfl : x_30 = iZ (((g1 - h1) * (gz f ((b * 6) + 0))) / 6) := ex_30.trans (iZ_div (a := ((g1 - h1) * (gz f ((b * 6) + 0)))) (b := 6) (by omega) (by omega) (by omega) (by omega))
            refine lv_iadd hx hb dX5_apart_116 ?_
            refine lv_topi (fun x_31 ex_31 => ?_)
            obtain rfl : x_31 = iZ (((gz f ((a * 6) + 0)) - (gz f ((b * 6) + 0))) + (((g1 - h1) * (gz f ((b * 6) + 0))) / 6)) := ex_31.trans (iZ_add ((gz f ((a * 6) + 0)) - (gz f ((b * 6) + 0))) (((g1 - h1) * (gz f ((b * 6) + 0))) / 6))
            refine lv_istore (lv' := [(11, .int (iZ (((gz f ((a * 6) + 0)) - (gz f ((b * 6) + 0))) + (((g1 - h1) * (gz f ((b * 6) + 0))) / 6)))), (10, .int (iZ (g1 - h1))), (9, .int (iZ (g1 - h1))), (8, .int (iZ (gz f ((a * 6) + 0)))), (7, .int (iZ (gz f ((b * 6) + 0)))), (6, .int (iZ (gz f ((b * 6) + 0)))), (5, .int (iZ (gz f ((a * 6) + 0)))), (0, .ref h), (1, .int (iZ a)), (2, .int (iZ h1)), (3, .int (iZ b)), (4, .int (iZ g1))]) hx hb dX5_apart_117 hl (bl rfl) rfl (fun ls hl => ?_)
            refine lv_iload hx hb dX5_apart_119 (lv_at hl 0 rfl) ?_
            refine lv_iconst (v := iZ 1) hx hb dX5_apart_121 rfl ?_
            refine lv_icmp_ge (tgt := 129) hx hb dX5_apart_122 rfl (fun c_32 => ?_) (fun c_32 => ?_)
            ·
              have c_32 := (zle (x := iZ 1) (y := iZ (((gz f ((a * 6) + 0)) - (gz f ((b * 6) + 0))) + (((g1 - h1) * (gz f ((b * 6) + 0))) / 6))) rfl rfl wn_1 ⟨by omega, by omega⟩).mp c_32
              refine lv_iload hx hb dX5_apart_129 (lv_at hl 0 rfl) ?_
              exact ERi hx hb hr hlocks (congrArg iZ (by simp only [ap, lg0, nr, fr, sp, tn, c_1, c_10, c_11, c_12, c_27, c_32, if_true, if_false])) dX5_apart_131
            ·
              have c_32 := mt (zle (x := iZ 1) (y := iZ (((gz f ((a * 6) + 0)) - (gz f ((b * 6) + 0))) + (((g1 - h1) * (gz f ((b * 6) + 0))) / 6))) rfl rfl wn_1 ⟨by omega, by omega⟩).mpr c_32
              refine lv_iconst (v := iZ 1) hx hb dX5_apart_125 rfl ?_
              refine lv_goto (tgt := 131) hx hb dX5_apart_126 rfl ?_
              exact ERi hx hb hr hlocks (congrArg iZ (by simp only [ap, lg0, nr, fr, sp, tn, c_1, c_10, c_11, c_12, c_27, c_32, if_true, if_false])) dX5_apart_131
          ·
            have c_27 := mt (zle (x := iZ (g1 - h1)) (y := iZ 6) rfl rfl ⟨by omega, by omega⟩ wn_6).mpr c_27
            refine lv_bipush (v := iZ 12) hx hb dX5_apart_91 bip_12 ?_
            refine lv_iload hx hb dX5_apart_93 (lv_at hl 0 rfl) ?_
            refine lv_isub hx hb dX5_apart_95 ?_
            refine lv_topi (fun x_33 ex_33 => ?_)
            obtain rfl : x_33 = iZ (12 - (g1 - h1)) := ex_33.trans (iZ_sub 12 (g1 - h1))
            refine lv_goto (tgt := 101) hx hb dX5_apart_96 rfl ?_
            refine lv_istore (lv' := [(10, .int (iZ (12 - (g1 - h1)))), (9, .int (iZ (g1 - h1))), (8, .int (iZ (gz f ((a * 6) + 0)))), (7, .int (iZ (gz f ((b * 6) + 0)))), (6, .int (iZ (gz f ((b * 6) + 0)))), (5, .int (iZ (gz f ((a * 6) + 0)))), (0, .ref h), (1, .int (iZ a)), (2, .int (iZ h1)), (3, .int (iZ b)), (4, .int (iZ g1))]) hx hb dX5_apart_101 hl (bl rfl) rfl (fun ls hl => ?_)
            refine lv_iload hx hb dX5_apart_103 (lv_at hl 2 rfl) ?_
            refine lv_iload hx hb dX5_apart_105 (lv_at hl 3 rfl) ?_
            refine lv_isub hx hb dX5_apart_107 ?_
            refine lv_topi (fun x_34 ex_34 => ?_)
            obtain rfl : x_34 = iZ ((gz f ((a * 6) + 0)) - (gz f ((b * 6) + 0))) := ex_34.trans (iZ_sub (gz f ((a * 6) + 0)) (gz f ((b * 6) + 0)))
            refine lv_iload hx hb dX5_apart_108 (lv_at hl 0 rfl) ?_
            refine lv_iload hx hb dX5_apart_110 (lv_at hl 3 rfl) ?_
            have hm_112 := mul_b (a := (12 - (g1 - h1))) (b := (gz f ((b * 6) + 0))) (A := 6) (B := 20) (by omega) (by omega) (by omega) (by omega)
            refine lv_imul hx hb dX5_apart_112 ?_
            refine lv_topi (fun x_35 ex_35 => ?_)
            obtain rfl : x_35 = iZ ((12 - (g1 - h1)) * (gz f ((b * 6) + 0))) := ex_35.trans (iZ_mul (12 - (g1 - h1)) (gz f ((b * 6) + 0)))
            refine lv_bipush (v := iZ 6) hx hb dX5_apart_113 bip_6 ?_
            refine lv_idiv hx hb dX5_apart_115 (by rw [zne rfl ⟨by omega, by omega⟩]; omega) ?_
            have hd_115 := zdiv_b (a := ((12 - (g1 - h1)) * (gz f ((b * 6) + 0)))) (b := 6) (by omega) (by omega)
            refine lv_topi (fun x_36 ex_36 => ?_)
            obtain rfl : x_36 = iZ (((12 - (g1 - h1)) * (gz f ((b * 6) + 0))) / 6) := ex_36.trans (iZ_div (a := ((12 - (g1 - h1)) * (gz f ((b * 6) + 0)))) (b := 6) (by omega) (by omega) (by omega) (by omega))
            refine lv_iadd hx hb dX5_apart_116 ?_
            refine lv_topi (fun x_37 ex_37 => ?_)
            obtain rfl : x_37 = iZ (((gz f ((a * 6) + 0)) - (gz f ((b * 6) + 0))) + (((12 - (g1 - h1)) * (gz f ((b * 6) + 0))) / 6)) := ex_37.trans (iZ_add ((gz f ((a * 6) + 0)) - (gz f ((b * 6) + 0))) (((12 - (g1 - h1)) * (gz f ((b * 6) + 0))) / 6))
            refine lv_istore (lv' := [(11, .int (iZ (((gz f ((a * 6) + 0)) - (gz f ((b * 6) + 0))) + (((12 - (g1 - h1)) * (gz f ((b * 6) + 0))) / 6)))), (10, .int (iZ (12 - (g1 - h1)))), (9, .int (iZ (g1 - h1))), (8, .int (iZ (gz f ((a * 6) + 0)))), (7, .int (iZ (gz f ((b * 6) + 0)))), (6, .int (iZ (gz f ((b * 6) + 0)))), (5, .int (iZ (gz f ((a * 6) + 0)))), (0, .ref h), (1, .int (iZ a)), (2, .int (iZ h1)), (3, .int (iZ b)), (4, .int (iZ g1))]) hx hb dX5_apart_117 hl (bl rfl) rfl (fun ls hl => ?_)
            refine lv_iload hx hb dX5_apart_119 (lv_at hl 0 rfl) ?_
            refine lv_iconst (v := iZ 1) hx hb dX5_apart_121 rfl ?_
            refine lv_icmp_ge (tgt := 129) hx hb dX5_apart_122 rfl (fun c_38 => ?_) (fun c_38 => ?_)
            ·
              have c_38 := (zle (x := iZ 1) (y := iZ (((gz f ((a * 6) + 0)) - (gz f ((b * 6) + 0))) + (((12 - (g1 - h1)) * (gz f ((b * 6) + 0))) / 6))) rfl rfl wn_1 ⟨by omega, by omega⟩).mp c_38
              refine lv_iload hx hb dX5_apart_129 (lv_at hl 0 rfl) ?_
              exact ERi hx hb hr hlocks (congrArg iZ (by simp only [ap, lg0, nr, fr, sp, tn, c_1, c_10, c_11, c_12, c_27, c_38, if_true, if_false])) dX5_apart_131
            ·
              have c_38 := mt (zle (x := iZ 1) (y := iZ (((gz f ((a * 6) + 0)) - (gz f ((b * 6) + 0))) + (((12 - (g1 - h1)) * (gz f ((b * 6) + 0))) / 6))) rfl rfl wn_1 ⟨by omega, by omega⟩).mpr c_38
              refine lv_iconst (v := iZ 1) hx hb dX5_apart_125 rfl ?_
              refine lv_goto (tgt := 131) hx hb dX5_apart_126 rfl ?_
              exact ERi hx hb hr hlocks (congrArg iZ (by simp only [ap, lg0, nr, fr, sp, tn, c_1, c_10, c_11, c_12, c_27, c_38, if_true, if_false])) dX5_apart_131
      ·
        have c_11 := mt (zle (x := iZ (gz f ((b * 6) + 0))) (y := iZ (gz f ((a * 6) + 0))) rfl rfl (gz_rg f ((b * 6) + 0)) (gz_rg f ((a * 6) + 0))).mpr c_11
        exact absurd c_11 (by omega)
    ·
      have c_10 := mt (zle (x := iZ (gz f ((b * 6) + 0))) (y := iZ (gz f ((a * 6) + 0))) rfl rfl (gz_rg f ((b * 6) + 0)) (gz_rg f ((a * 6) + 0))).mpr c_10
      refine lv_iload hx hb dX5_apart_40 (lv_at hl 1 rfl) ?_
      refine lv_goto (tgt := 47) hx hb dX5_apart_42 rfl ?_
      refine lv_istore (lv' := [(7, .int (iZ (gz f ((a * 6) + 0)))), (6, .int (iZ (gz f ((b * 6) + 0)))), (5, .int (iZ (gz f ((a * 6) + 0)))), (0, .ref h), (1, .int (iZ a)), (2, .int (iZ h1)), (3, .int (iZ b)), (4, .int (iZ g1))]) hx hb dX5_apart_47 hl (bl rfl) rfl (fun ls hl => ?_)
      refine lv_iload hx hb dX5_apart_49 (lv_at hl 2 rfl) ?_
      refine lv_iload hx hb dX5_apart_51 (lv_at hl 1 rfl) ?_
      refine lv_icmp_ge (tgt := 61) hx hb dX5_apart_53 rfl (fun c_39 => ?_) (fun c_39 => ?_)
      ·
        have c_39 := (zle (x := iZ (gz f ((b * 6) + 0))) (y := iZ (gz f ((a * 6) + 0))) rfl rfl (gz_rg f ((b * 6) + 0)) (gz_rg f ((a * 6) + 0))).mp c_39
        exact absurd c_39 (by omega)
      ·
        have c_39 := mt (zle (x := iZ (gz f ((b * 6) + 0))) (y := iZ (gz f ((a * 6) + 0))) rfl rfl (gz_rg f ((b * 6) + 0)) (gz_rg f ((a * 6) + 0))).mpr c_39
        refine lv_iload hx hb dX5_apart_56 (lv_at hl 1 rfl) ?_
        refine lv_goto (tgt := 63) hx hb dX5_apart_58 rfl ?_
        refine lv_istore (lv' := [(8, .int (iZ (gz f ((b * 6) + 0)))), (7, .int (iZ (gz f ((a * 6) + 0)))), (6, .int (iZ (gz f ((b * 6) + 0)))), (5, .int (iZ (gz f ((a * 6) + 0)))), (0, .ref h), (1, .int (iZ a)), (2, .int (iZ h1)), (3, .int (iZ b)), (4, .int (iZ g1))]) hx hb dX5_apart_63 hl (bl rfl) rfl (fun ls hl => ?_)
        refine lv_iload_n hx hb dX5_apart_65 rfl (lv_at hl 6 rfl) ?_
        refine lv_iload hx hb dX5_apart_66 (lv_at hl 8 rfl) ?_
        refine lv_icmp_ge (tgt := 78) hx hb dX5_apart_68 rfl (fun c_40 => ?_) (fun c_40 => ?_)
        ·
          have c_40 := (zle (x := iZ g1) (y := iZ h1) rfl rfl ⟨by omega, by omega⟩ ⟨by omega, by omega⟩).mp c_40
          refine lv_iload_n hx hb dX5_apart_78 rfl (lv_at hl 6 rfl) ?_
          refine lv_iload hx hb dX5_apart_79 (lv_at hl 8 rfl) ?_
          refine lv_isub hx hb dX5_apart_81 ?_
          refine lv_topi (fun x_41 ex_41 => ?_)
          obtain rfl : x_41 = iZ (h1 - g1) := ex_41.trans (iZ_sub h1 g1)
          refine lv_istore (lv' := [(9, .int (iZ (h1 - g1))), (8, .int (iZ (gz f ((b * 6) + 0)))), (7, .int (iZ (gz f ((a * 6) + 0)))), (6, .int (iZ (gz f ((b * 6) + 0)))), (5, .int (iZ (gz f ((a * 6) + 0)))), (0, .ref h), (1, .int (iZ a)), (2, .int (iZ h1)), (3, .int (iZ b)), (4, .int (iZ g1))]) hx hb dX5_apart_82 hl (bl rfl) rfl (fun ls hl => ?_)
          refine lv_iload hx hb dX5_apart_84 (lv_at hl 0 rfl) ?_
          refine lv_bipush (v := iZ 6) hx hb dX5_apart_86 bip_6 ?_
          refine lv_icmp_le (tgt := 99) hx hb dX5_apart_88 rfl (fun c_42 => ?_) (fun c_42 => ?_)
          ·
            have c_42 := (zle (x := iZ (h1 - g1)) (y := iZ 6) rfl rfl ⟨by omega, by omega⟩ wn_6).mp c_42
            refine lv_iload hx hb dX5_apart_99 (lv_at hl 0 rfl) ?_
            refine lv_istore (lv' := [(10, .int (iZ (h1 - g1))), (9, .int (iZ (h1 - g1))), (8, .int (iZ (gz f ((b * 6) + 0)))), (7, .int (iZ (gz f ((a * 6) + 0)))), (6, .int (iZ (gz f ((b * 6) + 0)))), (5, .int (iZ (gz f ((a * 6) + 0)))), (0, .ref h), (1, .int (iZ a)), (2, .int (iZ h1)), (3, .int (iZ b)), (4, .int (iZ g1))]) hx hb dX5_apart_101 hl (bl rfl) rfl (fun ls hl => ?_)
            refine lv_iload hx hb dX5_apart_103 (lv_at hl 2 rfl) ?_
            refine lv_iload hx hb dX5_apart_105 (lv_at hl 3 rfl) ?_
            refine lv_isub hx hb dX5_apart_107 ?_
            refine lv_topi (fun x_43 ex_43 => ?_)
            obtain rfl : x_43 = iZ ((gz f ((b * 6) + 0)) - (gz f ((a * 6) + 0))) := ex_43.trans (iZ_sub (gz f ((b * 6) + 0)) (gz f ((a * 6) + 0)))
            refine lv_iload hx hb dX5_apart_108 (lv_at hl 0 rfl) ?_
            refine lv_iload hx hb dX5_apart_110 (lv_at hl 3 rfl) ?_
            have hm_112 := mul_b (a := (h1 - g1)) (b := (gz f ((a * 6) + 0))) (A := 6) (B := 20) (by omega) (by omega) (by omega) (by omega)
            refine lv_imul hx hb dX5_apart_112 ?_
            refine lv_topi (fun x_44 ex_44 => ?_)
            obtain rfl : x_44 = iZ ((h1 - g1) * (gz f ((a * 6) + 0))) := ex_44.trans (iZ_mul (h1 - g1) (gz f ((a * 6) + 0)))
            refine lv_bipush (v := iZ 6) hx hb dX5_apart_113 bip_6 ?_
            refine lv_idiv hx hb dX5_apart_115 (by rw [zne rfl ⟨by omega, by omega⟩]; omega) ?_
            have hd_115 := zdiv_b (a := ((h1 - g1) * (gz f ((a * 6) + 0)))) (b := 6) (by omega) (by omega)
            refine lv_topi (fun x_45 ex_45 => ?_)
            obtain rfl : x_45 = iZ (((h1 - g1) * (gz f ((a * 6) + 0))) / 6) := ex_45.trans (iZ_div (a := ((h1 - g1) * (gz f ((a * 6) + 0)))) (b := 6) (by omega) (by omega) (by omega) (by omega))
            refine lv_iadd hx hb dX5_apart_116 ?_
            refine lv_topi (fun x_46 ex_46 => ?_)
            obtain rfl : x_46 = iZ (((gz f ((b * 6) + 0)) - (gz f ((a * 6) + 0))) + (((h1 - g1) * (gz f ((a * 6) + 0))) / 6)) := ex_46.trans (iZ_add ((gz f ((b * 6) + 0)) - (gz f ((a * 6) + 0))) (((h1 - g1) * (gz f ((a * 6) + 0))) / 6))
            refine lv_istore (lv' := [(11, .int (iZ (((gz f ((b * 6) + 0)) - (gz f ((a * 6) + 0))) + (((h1 - g1) * (gz f ((a * 6) + 0))) / 6)))), (10, .int (iZ (h1 - g1))), (9, .int (iZ (h1 - g1))), (8, .int (iZ (gz f ((b * 6) + 0)))), (7, .int (iZ (gz f ((a * 6) + 0)))), (6, .int (iZ (gz f ((b * 6) + 0)))), (5, .int (iZ (gz f ((a * 6) + 0)))), (0, .ref h), (1, .int (iZ a)), (2, .int (iZ h1)), (3, .int (iZ b)), (4, .int (iZ g1))]) hx hb dX5_apart_117 hl (bl rfl) rfl (fun ls hl => ?_)
            refine lv_iload hx hb dX5_apart_119 (lv_at hl 0 rfl) ?_
            refine lv_iconst (v := iZ 1) hx hb dX5_apart_121 rfl ?_
            refine lv_icmp_ge (tgt := 129) hx hb dX5_apart_122 rfl (fun c_47 => ?_) (fun c_47 => ?_)
            ·
              have c_47 := (zle (x := iZ 1) (y := iZ (((gz f ((b * 6) + 0)) - (gz f ((a * 6) + 0))) + (((h1 - g1) * (gz f ((a * 6) + 0))) / 6))) rfl rfl wn_1 ⟨by omega, by omega⟩).mp c_47
              refine lv_iload hx hb dX5_apart_129 (lv_at hl 0 rfl) ?_
              exact ERi hx hb hr hlocks (congrArg iZ (by simp only [ap, lg0, nr, fr, sp, tn, c_1, c_10, c_39, c_40, c_42, c_47, if_true, if_false])) dX5_apart_131
            ·
              have c_47 := mt (zle (x := iZ 1) (y := iZ (((gz f ((b * 6) + 0)) - (gz f ((a * 6) + 0))) + (((h1 - g1) * (gz f ((a * 6) + 0))) / 6))) rfl rfl wn_1 ⟨by omega, by omega⟩).mpr c_47
              refine lv_iconst (v := iZ 1) hx hb dX5_apart_125 rfl ?_
              refine lv_goto (tgt := 131) hx hb dX5_apart_126 rfl ?_
              exact ERi hx hb hr hlocks (congrArg iZ (by simp only [ap, lg0, nr, fr, sp, tn, c_1, c_10, c_39, c_40, c_42, c_47, if_true, if_false])) dX5_apart_131
          ·
            have c_42 := mt (zle (x := iZ (h1 - g1)) (y := iZ 6) rfl rfl ⟨by omega, by omega⟩ wn_6).mpr c_42
            refine lv_bipush (v := iZ 12) hx hb dX5_apart_91 bip_12 ?_
            refine lv_iload hx hb dX5_apart_93 (lv_at hl 0 rfl) ?_
            refine lv_isub hx hb dX5_apart_95 ?_
            refine lv_topi (fun x_48 ex_48 => ?_)
            obtain rfl : x_48 = iZ (12 - (h1 - g1)) := ex_48.trans (iZ_sub 12 (h1 - g1))
            refine lv_goto (tgt := 101) hx hb dX5_apart_96 rfl ?_
            refine lv_istore (lv' := [(10, .int (iZ (12 - (h1 - g1)))), (9, .int (iZ (h1 - g1))), (8, .int (iZ (gz f ((b * 6) + 0)))), (7, .int (iZ (gz f ((a * 6) + 0)))), (6, .int (iZ (gz f ((b * 6) + 0)))), (5, .int (iZ (gz f ((a * 6) + 0)))), (0, .ref h), (1, .int (iZ a)), (2, .int (iZ h1)), (3, .int (iZ b)), (4, .int (iZ g1))]) hx hb dX5_apart_101 hl (bl rfl) rfl (fun ls hl => ?_)
            refine lv_iload hx hb dX5_apart_103 (lv_at hl 2 rfl) ?_
            refine lv_iload hx hb dX5_apart_105 (lv_at hl 3 rfl) ?_
            refine lv_isub hx hb dX5_apart_107 ?_
            refine lv_topi (fun x_49 ex_49 => ?_)
            obtain rfl : x_49 = iZ ((gz f ((b * 6) + 0)) - (gz f ((a * 6) + 0))) := ex_49.trans (iZ_sub (gz f ((b * 6) + 0)) (gz f ((a * 6) + 0)))
            refine lv_iload hx hb dX5_apart_108 (lv_at hl 0 rfl) ?_
            refine lv_iload hx hb dX5_apart_110 (lv_at hl 3 rfl) ?_
            have hm_112 := mul_b (a := (12 - (h1 - g1))) (b := (gz f ((a * 6) + 0))) (A := 6) (B := 20) (by omega) (by omega) (by omega) (by omega)
            refine lv_imul hx hb dX5_apart_112 ?_
            refine lv_topi (fun x_50 ex_50 => ?_)
            obtain rfl : x_50 = iZ ((12 - (h1 - g1)) * (gz f ((a * 6) + 0))) := ex_50.trans (iZ_mul (12 - (h1 - g1)) (gz f ((a * 6) + 0)))
            refine lv_bipush (v := iZ 6) hx hb dX5_apart_113 bip_6 ?_
            refine lv_idiv hx hb dX5_apart_115 (by rw [zne rfl ⟨by omega, by omega⟩]; omega) ?_
            have hd_115 := zdiv_b (a := ((12 - (h1 - g1)) * (gz f ((a * 6) + 0)))) (b := 6) (by omega) (by omega)
            refine lv_topi (fun x_51 ex_51 => ?_)
            obtain rfl : x_51 = iZ (((12 - (h1 - g1)) * (gz f ((a * 6) + 0))) / 6) := ex_51.trans (iZ_div (a := ((12 - (h1 - g1)) * (gz f ((a * 6) + 0)))) (b := 6) (by omega) (by omega) (by omega) (by omega))
            refine lv_iadd hx hb dX5_apart_116 ?_
            refine lv_topi (fun x_52 ex_52 => ?_)
            obtain rfl : x_52 = iZ (((gz f ((b * 6) + 0)) - (gz f ((a * 6) + 0))) + (((12 - (h1 - g1)) * (gz f ((a * 6) + 0))) / 6)) := ex_52.trans (iZ_add ((gz f ((b * 6) + 0)) - (gz f ((a * 6) + 0))) (((12 - (h1 - g1)) * (gz f ((a * 6) + 0))) / 6))
            refine lv_istore (lv' := [(11, .int (iZ (((gz f ((b * 6) + 0)) - (gz f ((a * 6) + 0))) + (((12 - (h1 - g1)) * (gz f ((a * 6) + 0))) / 6)))), (10, .int (iZ (12 - (h1 - g1)))), (9, .int (iZ (h1 - g1))), (8, .int (iZ (gz f ((b * 6) + 0)))), (7, .int (iZ (gz f ((a * 6) + 0)))), (6, .int (iZ (gz f ((b * 6) + 0)))), (5, .int (iZ (gz f ((a * 6) + 0)))), (0, .ref h), (1, .int (iZ a)), (2, .int (iZ h1)), (3, .int (iZ b)), (4, .int (iZ g1))]) hx hb dX5_apart_117 hl (bl rfl) rfl (fun ls hl => ?_)
            refine lv_iload hx hb dX5_apart_119 (lv_at hl 0 rfl) ?_
            refine lv_iconst (v := iZ 1) hx hb dX5_apart_121 rfl ?_
            refine lv_icmp_ge (tgt := 129) hx hb dX5_apart_122 rfl (fun c_53 => ?_) (fun c_53 => ?_)
            ·
              have c_53 := (zle (x := iZ 1) (y := iZ (((gz f ((b * 6) + 0)) - (gz f ((a * 6) + 0))) + (((12 - (h1 - g1)) * (gz f ((a * 6) + 0))) / 6))) rfl rfl wn_1 ⟨by omega, by omega⟩).mp c_53
              refine lv_iload hx hb dX5_apart_129 (lv_at hl 0 rfl) ?_
              exact ERi hx hb hr hlocks (congrArg iZ (by simp only [ap, lg0, nr, fr, sp, tn, c_1, c_10, c_39, c_40, c_42, c_53, if_true, if_false])) dX5_apart_131
            ·
              have c_53 := mt (zle (x := iZ 1) (y := iZ (((gz f ((b * 6) + 0)) - (gz f ((a * 6) + 0))) + (((12 - (h1 - g1)) * (gz f ((a * 6) + 0))) / 6))) rfl rfl wn_1 ⟨by omega, by omega⟩).mpr c_53
              refine lv_iconst (v := iZ 1) hx hb dX5_apart_125 rfl ?_
              refine lv_goto (tgt := 131) hx hb dX5_apart_126 rfl ?_
              exact ERi hx hb hr hlocks (congrArg iZ (by simp only [ap, lg0, nr, fr, sp, tn, c_1, c_10, c_39, c_40, c_42, c_53, if_true, if_false])) dX5_apart_131
        ·
          have c_40 := mt (zle (x := iZ g1) (y := iZ h1) rfl rfl ⟨by omega, by omega⟩ ⟨by omega, by omega⟩).mpr c_40
          refine lv_iload hx hb dX5_apart_71 (lv_at hl 8 rfl) ?_
          refine lv_iload_n hx hb dX5_apart_73 rfl (lv_at hl 6 rfl) ?_
          refine lv_isub hx hb dX5_apart_74 ?_
          refine lv_topi (fun x_54 ex_54 => ?_)
          obtain rfl : x_54 = iZ (g1 - h1) := ex_54.trans (iZ_sub g1 h1)
          refine lv_goto (tgt := 82) hx hb dX5_apart_75 rfl ?_
          refine lv_istore (lv' := [(9, .int (iZ (g1 - h1))), (8, .int (iZ (gz f ((b * 6) + 0)))), (7, .int (iZ (gz f ((a * 6) + 0)))), (6, .int (iZ (gz f ((b * 6) + 0)))), (5, .int (iZ (gz f ((a * 6) + 0)))), (0, .ref h), (1, .int (iZ a)), (2, .int (iZ h1)), (3, .int (iZ b)), (4, .int (iZ g1))]) hx hb dX5_apart_82 hl (bl rfl) rfl (fun ls hl => ?_)
          refine lv_iload hx hb dX5_apart_84 (lv_at hl 0 rfl) ?_
          refine lv_bipush (v := iZ 6) hx hb dX5_apart_86 bip_6 ?_
          refine lv_icmp_le (tgt := 99) hx hb dX5_apart_88 rfl (fun c_55 => ?_) (fun c_55 => ?_)
          ·
            have c_55 := (zle (x := iZ (g1 - h1)) (y := iZ 6) rfl rfl ⟨by omega, by omega⟩ wn_6).mp c_55
            refine lv_iload hx hb dX5_apart_99 (lv_at hl 0 rfl) ?_
            refine lv_istore (lv' := [(10, .int (iZ (g1 - h1))), (9, .int (iZ (g1 - h1))), (8, .int (iZ (gz f ((b * 6) + 0)))), (7, .int (iZ (gz f ((a * 6) + 0)))), (6, .int (iZ (gz f ((b * 6) + 0)))), (5, .int (iZ (gz f ((a * 6) + 0)))), (0, .ref h), (1, .int (iZ a)), (2, .int (iZ h1)), (3, .int (iZ b)), (4, .int (iZ g1))]) hx hb dX5_apart_101 hl (bl rfl) rfl (fun ls hl => ?_)
            refine lv_iload hx hb dX5_apart_103 (lv_at hl 2 rfl) ?_
            refine lv_iload hx hb dX5_apart_105 (lv_at hl 3 rfl) ?_
            refine lv_isub hx hb dX5_apart_107 ?_
            refine lv_topi (fun x_56 ex_56 => ?_)
            obtain rfl : x_56 = iZ ((gz f ((b * 6) + 0)) - (gz f ((a * 6) + 0))) := ex_56.trans (iZ_sub (gz f ((b * 6) + 0)) (gz f ((a * 6) + 0)))
            refine lv_iload hx hb dX5_apart_108 (lv_at hl 0 rfl) ?_
            refine lv_iload hx hb dX5_apart_110 (lv_at hl 3 rfl) ?_
            have hm_112 := mul_b (a := (g1 - h1)) (b := (gz f ((a * 6) + 0))) (A := 6) (B := 20) (by omega) (by omega) (by omega) (by omega)
            refine lv_imul hx hb dX5_apart_112 ?_
            refine lv_topi (fun x_57 ex_57 => ?_)
            obtain rfl : x_57 = iZ ((g1 - h1) * (gz f ((a * 6) + 0))) := ex_57.trans (iZ_mul (g1 - h1) (gz f ((a * 6) + 0)))
            refine lv_bipush (v := iZ 6) hx hb dX5_apart_113 bip_6 ?_
            refine lv_idiv hx hb dX5_apart_115 (by rw [zne rfl ⟨by omega, by omega⟩]; omega) ?_
            have hd_115 := zdiv_b (a := ((g1 - h1) * (gz f ((a * 6) + 0)))) (b := 6) (by omega) (by omega)
            refine lv_topi (fun x_58 ex_58 => ?_)
            obtain rfl : x_58 = iZ (((g1 - h1) * (gz f ((a * 6) + 0))) / 6) := ex_58.trans (iZ_div (a := ((g1 - h1) * (gz f ((a * 6) + 0)))) (b := 6) (by omega) (by omega) (by omega) (by omega))
            refine lv_iadd hx hb dX5_apart_116 ?_
            refine lv_topi (fun x_59 ex_59 => ?_)
            obtain rfl : x_59 = iZ (((gz f ((b * 6) + 0)) - (gz f ((a * 6) + 0))) + (((g1 - h1) * (gz f ((a * 6) + 0))) / 6)) := ex_59.trans (iZ_add ((gz f ((b * 6) + 0)) - (gz f ((a * 6) + 0))) (((g1 - h1) * (gz f ((a * 6) + 0))) / 6))
            refine lv_istore (lv' := [(11, .int (iZ (((gz f ((b * 6) + 0)) - (gz f ((a * 6) + 0))) + (((g1 - h1) * (gz f ((a * 6) + 0))) / 6)))), (10, .int (iZ (g1 - h1))), (9, .int (iZ (g1 - h1))), (8, .int (iZ (gz f ((b * 6) + 0)))), (7, .int (iZ (gz f ((a * 6) + 0)))), (6, .int (iZ (gz f ((b * 6) + 0)))), (5, .int (iZ (gz f ((a * 6) + 0)))), (0, .ref h), (1, .int (iZ a)), (2, .int (iZ h1)), (3, .int (iZ b)), (4, .int (iZ g1))]) hx hb dX5_apart_117 hl (bl rfl) rfl (fun ls hl => ?_)
            refine lv_iload hx hb dX5_apart_119 (lv_at hl 0 rfl) ?_
            refine lv_iconst (v := iZ 1) hx hb dX5_apart_121 rfl ?_
            refine lv_icmp_ge (tgt := 129) hx hb dX5_apart_122 rfl (fun c_60 => ?_) (fun c_60 => ?_)
            ·
              have c_60 := (zle (x := iZ 1) (y := iZ (((gz f ((b * 6) + 0)) - (gz f ((a * 6) + 0))) + (((g1 - h1) * (gz f ((a * 6) + 0))) / 6))) rfl rfl wn_1 ⟨by omega, by omega⟩).mp c_60
              refine lv_iload hx hb dX5_apart_129 (lv_at hl 0 rfl) ?_
              exact ERi hx hb hr hlocks (congrArg iZ (by simp only [ap, lg0, nr, fr, sp, tn, c_1, c_10, c_39, c_40, c_55, c_60, if_true, if_false])) dX5_apart_131
            ·
              have c_60 := mt (zle (x := iZ 1) (y := iZ (((gz f ((b * 6) + 0)) - (gz f ((a * 6) + 0))) + (((g1 - h1) * (gz f ((a * 6) + 0))) / 6))) rfl rfl wn_1 ⟨by omega, by omega⟩).mpr c_60
              refine lv_iconst (v := iZ 1) hx hb dX5_apart_125 rfl ?_
              refine lv_goto (tgt := 131) hx hb dX5_apart_126 rfl ?_
              exact ERi hx hb hr hlocks (congrArg iZ (by simp only [ap, lg0, nr, fr, sp, tn, c_1, c_10, c_39, c_40, c_55, c_60, if_true, if_false])) dX5_apart_131
          ·
            have c_55 := mt (zle (x := iZ (g1 - h1)) (y := iZ 6) rfl rfl ⟨by omega, by omega⟩ wn_6).mpr c_55
            refine lv_bipush (v := iZ 12) hx hb dX5_apart_91 bip_12 ?_
            refine lv_iload hx hb dX5_apart_93 (lv_at hl 0 rfl) ?_
            refine lv_isub hx hb dX5_apart_95 ?_
            refine lv_topi (fun x_61 ex_61 => ?_)
            obtain rfl : x_61 = iZ (12 - (g1 - h1)) := ex_61.trans (iZ_sub 12 (g1 - h1))
            refine lv_goto (tgt := 101) hx hb dX5_apart_96 rfl ?_
            refine lv_istore (lv' := [(10, .int (iZ (12 - (g1 - h1)))), (9, .int (iZ (g1 - h1))), (8, .int (iZ (gz f ((b * 6) + 0)))), (7, .int (iZ (gz f ((a * 6) + 0)))), (6, .int (iZ (gz f ((b * 6) + 0)))), (5, .int (iZ (gz f ((a * 6) + 0)))), (0, .ref h), (1, .int (iZ a)), (2, .int (iZ h1)), (3, .int (iZ b)), (4, .int (iZ g1))]) hx hb dX5_apart_101 hl (bl rfl) rfl (fun ls hl => ?_)
            refine lv_iload hx hb dX5_apart_103 (lv_at hl 2 rfl) ?_
            refine lv_iload hx hb dX5_apart_105 (lv_at hl 3 rfl) ?_
            refine lv_isub hx hb dX5_apart_107 ?_
            refine lv_topi (fun x_62 ex_62 => ?_)
            obtain rfl : x_62 = iZ ((gz f ((b * 6) + 0)) - (gz f ((a * 6) + 0))) := ex_62.trans (iZ_sub (gz f ((b * 6) + 0)) (gz f ((a * 6) + 0)))
            refine lv_iload hx hb dX5_apart_108 (lv_at hl 0 rfl) ?_
            refine lv_iload hx hb dX5_apart_110 (lv_at hl 3 rfl) ?_
            have hm_112 := mul_b (a := (12 - (g1 - h1))) (b := (gz f ((a * 6) + 0))) (A := 6) (B := 20) (by omega) (by omega) (by omega) (by omega)
            refine lv_imul hx hb dX5_apart_112 ?_
            refine lv_topi (fun x_63 ex_63 => ?_)
            obtain rfl : x_63 = iZ ((12 - (g1 - h1)) * (gz f ((a * 6) + 0))) := ex_63.trans (iZ_mul (12 - (g1 - h1)) (gz f ((a * 6) + 0)))
            refine lv_bipush (v := iZ 6) hx hb dX5_apart_113 bip_6 ?_
            refine lv_idiv hx hb dX5_apart_115 (by rw [zne rfl ⟨by omega, by omega⟩]; omega) ?_
            have hd_115 := zdiv_b (a := ((12 - (g1 - h1)) * (gz f ((a * 6) + 0)))) (b := 6) (by omega) (by omega)
            refine lv_topi (fun x_64 ex_64 => ?_)
            obtain rfl : x_64 = iZ (((12 - (g1 - h1)) * (gz f ((a * 6) + 0))) / 6) := ex_64.trans (iZ_div (a := ((12 - (g1 - h1)) * (gz f ((a * 6) + 0)))) (b := 6) (by omega) (by omega) (by omega) (by omega))
            refine lv_iadd hx hb dX5_apart_116 ?_
            refine lv_topi (fun x_65 ex_65 => ?_)
            obtain rfl : x_65 = iZ (((gz f ((b * 6) + 0)) - (gz f ((a * 6) + 0))) + (((12 - (g1 - h1)) * (gz f ((a * 6) + 0))) / 6)) := ex_65.trans (iZ_add ((gz f ((b * 6) + 0)) - (gz f ((a * 6) + 0))) (((12 - (g1 - h1)) * (gz f ((a * 6) + 0))) / 6))
            refine lv_istore (lv' := [(11, .int (iZ (((gz f ((b * 6) + 0)) - (gz f ((a * 6) + 0))) + (((12 - (g1 - h1)) * (gz f ((a * 6) + 0))) / 6)))), (10, .int (iZ (12 - (g1 - h1)))), (9, .int (iZ (g1 - h1))), (8, .int (iZ (gz f ((b * 6) + 0)))), (7, .int (iZ (gz f ((a * 6) + 0)))), (6, .int (iZ (gz f ((b * 6) + 0)))), (5, .int (iZ (gz f ((a * 6) + 0)))), (0, .ref h), (1, .int (iZ a)), (2, .int (iZ h1)), (3, .int (iZ b)), (4, .int (iZ g1))]) hx hb dX5_apart_117 hl (bl rfl) rfl (fun ls hl => ?_)
            refine lv_iload hx hb dX5_apart_119 (lv_at hl 0 rfl) ?_
            refine lv_iconst (v := iZ 1) hx hb dX5_apart_121 rfl ?_
            refine lv_icmp_ge (tgt := 129) hx hb dX5_apart_122 rfl (fun c_66 => ?_) (fun c_66 => ?_)
            ·
              have c_66 := (zle (x := iZ 1) (y := iZ (((gz f ((b * 6) + 0)) - (gz f ((a * 6) + 0))) + (((12 - (g1 - h1)) * (gz f ((a * 6) + 0))) / 6))) rfl rfl wn_1 ⟨by omega, by omega⟩).mp c_66
              refine lv_iload hx hb dX5_apart_129 (lv_at hl 0 rfl) ?_
              exact ERi hx hb hr hlocks (congrArg iZ (by simp only [ap, lg0, nr, fr, sp, tn, c_1, c_10, c_39, c_40, c_55, c_66, if_true, if_false])) dX5_apart_131
            ·
              have c_66 := mt (zle (x := iZ 1) (y := iZ (((gz f ((b * 6) + 0)) - (gz f ((a * 6) + 0))) + (((12 - (g1 - h1)) * (gz f ((a * 6) + 0))) / 6))) rfl rfl wn_1 ⟨by omega, by omega⟩).mpr c_66
              refine lv_iconst (v := iZ 1) hx hb dX5_apart_125 rfl ?_
              refine lv_goto (tgt := 131) hx hb dX5_apart_126 rfl ?_
              exact ERi hx hb hr hlocks (congrArg iZ (by simp only [ap, lg0, nr, fr, sp, tn, c_1, c_10, c_39, c_40, c_55, c_66, if_true, if_false])) dX5_apart_131
  ·
    have c_1 := (zeq (x := iZ a) (y := iZ b) rfl rfl ⟨by omega, by omega⟩ ⟨by omega, by omega⟩).mp c_1
    refine lv_iconst (v := iZ 0) hx hb dX5_apart_5 rfl ?_
    exact ERi hx hb hr hlocks (congrArg iZ (by simp only [ap, lg0, nr, fr, sp, tn, c_1, if_true, if_false])) dX5_apart_6
