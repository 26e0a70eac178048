set_option maxHeartbeats 4000000 in
set_option maxRecDepth 100000 in
theorem k_bitCount (l : Launch) (D : va_G) (k : Nat → ClassId) (x : Int) : RP l yJ6_bitCount_0f7a4 cJ6_bitCount_0f7a4 1 (some .int) 0 D k [.int (iZ x)] [] (fun z => -2147483648 ≤ z ∧ z < 2147483648) := by
  refine MRP (by decide) (Nat.le_of_ble_eq_true rfl) (fun p e s m below meth c ls hx hb hml hr hlocks hts hown hKK hP hl => ?_)
  have hK := hKK.1
  have hl : lv_has ls 1 [(0, .int (iZ x))] := hl
  refine lv_iload_n hx hb dJ6_bitCount_0f7a4_0 rfl (lv_at hl 0 rfl) ?_
  refine lv_iload_n hx hb dJ6_bitCount_0f7a4_1 rfl (lv_at hl 0 rfl) ?_
  refine lv_iconst (v := iZ 1) hx hb dJ6_bitCount_0f7a4_2 (by decide) ?_
  refine lv_iushr (v := _) hx hb dJ6_bitCount_0f7a4_3 rfl ?_
  refine lv_topi (fun x_2 ex_2 => ?_)
  obtain ⟨z_1, hz_1, hz_1a, hz_1b⟩ := i32_z x_2
  subst hz_1
  refine lv_ldcw (own := RJ6) (v := 1431655765) hx hb hown (hts _ qk_J6_265) dJ6_bitCount_0f7a4_4 ?_
  refine W.eq (g2 := F0 m 7 ls [.int (iZ 1431655765), .int (iZ z_1), .int (iZ x)]) rfl ?_
  refine lv_iand hx hb dJ6_bitCount_0f7a4_7 ?_
  refine lv_topi (fun x_4 ex_4 => ?_)
  obtain ⟨z_3, hz_3, hz_3a, hz_3b⟩ := i32_z x_4
  subst hz_3
  refine lv_isub hx hb dJ6_bitCount_0f7a4_8 ?_
  refine lv_topi (fun x_5 ex_5 => ?_)
  obtain rfl : x_5 = iZ (x - z_3) := ex_5.trans (iZ_sub x z_3)
  refine lv_istore_n (lv' := [(0, .int (iZ (x - z_3)))]) hx hb dJ6_bitCount_0f7a4_9 rfl hl (by decide) rfl (fun ls hl => ?_)
  refine lv_iload_n hx hb dJ6_bitCount_0f7a4_10 rfl (lv_at hl 0 rfl) ?_
  refine lv_ldcw (own := RJ6) (v := 858993459) hx hb hown (hts _ qk_J6_266) dJ6_bitCount_0f7a4_11 ?_
  refine W.eq (g2 := F0 m 14 ls [.int (iZ 858993459), .int (iZ (x - z_3))]) rfl ?_
  refine lv_iand hx hb dJ6_bitCount_0f7a4_14 ?_
  refine lv_topi (fun x_7 ex_7 => ?_)
  obtain ⟨z_6, hz_6, hz_6a, hz_6b⟩ := i32_z x_7
  subst hz_6
  refine lv_iload_n hx hb dJ6_bitCount_0f7a4_15 rfl (lv_at hl 0 rfl) ?_
  refine lv_iconst (v := iZ 2) hx hb dJ6_bitCount_0f7a4_16 (by decide) ?_
  refine lv_iushr (v := _) hx hb dJ6_bitCount_0f7a4_17 rfl ?_
  refine lv_topi (fun x_9 ex_9 => ?_)
  obtain ⟨z_8, hz_8, hz_8a, hz_8b⟩ := i32_z x_9
  subst hz_8
  refine lv_ldcw (own := RJ6) (v := 858993459) hx hb hown (hts _ qk_J6_266) dJ6_bitCount_0f7a4_18 ?_
  refine W.eq (g2 := F0 m 21 ls [.int (iZ 858993459), .int (iZ z_8), .int (iZ z_6)]) rfl ?_
  refine lv_iand hx hb dJ6_bitCount_0f7a4_21 ?_
  refine lv_topi (fun x_11 ex_11 => ?_)
  obtain ⟨z_10, hz_10, hz_10a, hz_10b⟩ := i32_z x_11
  subst hz_10
  refine lv_iadd hx hb dJ6_bitCount_0f7a4_22 ?_
  refine lv_topi (fun x_12 ex_12 => ?_)
  obtain rfl : x_12 = iZ (z_6 + z_10) := ex_12.trans (iZ_add z_6 z_10)
  refine lv_istore_n (lv' := [(0, .int (iZ (z_6 + z_10)))]) hx hb dJ6_bitCount_0f7a4_23 rfl hl (by decide) rfl (fun ls hl => ?_)
  refine lv_iload_n hx hb dJ6_bitCount_0f7a4_24 rfl (lv_at hl 0 rfl) ?_
  refine lv_iload_n hx hb dJ6_bitCount_0f7a4_25 rfl (lv_at hl 0 rfl) ?_
  refine lv_iconst (v := iZ 4) hx hb dJ6_bitCount_0f7a4_26 (by decide) ?_
  refine lv_iushr (v := _) hx hb dJ6_bitCount_0f7a4_27 rfl ?_
  refine lv_topi (fun x_14 ex_14 => ?_)
  obtain ⟨z_13, hz_13, hz_13a, hz_13b⟩ := i32_z x_14
  subst hz_13
  refine lv_iadd hx hb dJ6_bitCount_0f7a4_28 ?_
  refine lv_topi (fun x_15 ex_15 => ?_)
  obtain rfl : x_15 = iZ ((z_6 + z_10) + z_13) := ex_15.trans (iZ_add (z_6 + z_10) z_13)
  refine lv_ldcw (own := RJ6) (v := 252645135) hx hb hown (hts _ qk_J6_267) dJ6_bitCount_0f7a4_29 ?_
  refine W.eq (g2 := F0 m 32 ls [.int (iZ 252645135), .int (iZ ((z_6 + z_10) + z_13))]) rfl ?_
  refine lv_iand hx hb dJ6_bitCount_0f7a4_32 ?_
  refine lv_topi (fun x_17 ex_17 => ?_)
  obtain ⟨z_16, hz_16, hz_16a, hz_16b⟩ := i32_z x_17
  subst hz_16
  refine lv_istore_n (lv' := [(0, .int (iZ z_16))]) hx hb dJ6_bitCount_0f7a4_33 rfl hl (by decide) rfl (fun ls hl => ?_)
  refine lv_iload_n hx hb dJ6_bitCount_0f7a4_34 rfl (lv_at hl 0 rfl) ?_
  refine lv_iload_n hx hb dJ6_bitCount_0f7a4_35 rfl (lv_at hl 0 rfl) ?_
  refine lv_bipush (v := iZ 8) hx hb dJ6_bitCount_0f7a4_36 (by decide) ?_
  refine lv_iushr (v := _) hx hb dJ6_bitCount_0f7a4_38 rfl ?_
  refine lv_topi (fun x_19 ex_19 => ?_)
  obtain ⟨z_18, hz_18, hz_18a, hz_18b⟩ := i32_z x_19
  subst hz_18
  refine lv_iadd hx hb dJ6_bitCount_0f7a4_39 ?_
  refine lv_topi (fun x_20 ex_20 => ?_)
  obtain rfl : x_20 = iZ (z_16 + z_18) := ex_20.trans (iZ_add z_16 z_18)
  refine lv_istore_n (lv' := [(0, .int (iZ (z_16 + z_18)))]) hx hb dJ6_bitCount_0f7a4_40 rfl hl (by decide) rfl (fun ls hl => ?_)
  refine lv_iload_n hx hb dJ6_bitCount_0f7a4_41 rfl (lv_at hl 0 rfl) ?_
  refine lv_iload_n hx hb dJ6_bitCount_0f7a4_42 rfl (lv_at hl 0 rfl) ?_
  refine lv_bipush (v := iZ 16) hx hb dJ6_bitCount_0f7a4_43 (by decide) ?_
  refine lv_iushr (v := _) hx hb dJ6_bitCount_0f7a4_45 rfl ?_
  refine lv_topi (fun x_22 ex_22 => ?_)
  obtain ⟨z_21, hz_21, hz_21a, hz_21b⟩ := i32_z x_22
  subst hz_21
  refine lv_iadd hx hb dJ6_bitCount_0f7a4_46 ?_
  refine lv_topi (fun x_23 ex_23 => ?_)
  obtain rfl : x_23 = iZ ((z_16 + z_18) + z_21) := ex_23.trans (iZ_add (z_16 + z_18) z_21)
  refine lv_istore_n (lv' := [(0, .int (iZ ((z_16 + z_18) + z_21)))]) hx hb dJ6_bitCount_0f7a4_47 rfl hl (by decide) rfl (fun ls hl => ?_)
  refine lv_iload_n hx hb dJ6_bitCount_0f7a4_48 rfl (lv_at hl 0 rfl) ?_
  refine lv_bipush (v := iZ 63) hx hb dJ6_bitCount_0f7a4_49 (by decide) ?_
  refine lv_iand hx hb dJ6_bitCount_0f7a4_51 ?_
  refine lv_topi (fun x_25 ex_25 => ?_)
  obtain ⟨z_24, hz_24, hz_24a, hz_24b⟩ := i32_z x_25
  subst hz_24
  exact EPi hx hb hr hlocks ⟨by assumption, by assumption⟩ dJ6_bitCount_0f7a4_52
set_option maxHeartbeats 4000000 in
set_option maxRecDepth 100000 in
theorem p_light (l : Launch) (D : va_G) (k : Nat → ClassId) (hx1 : Nat) (ta : Nat) (hw1 : Nat) (hw12 : Nat) (ka : Nat) (hr1 : Nat) (hq : Nat) (hv : Nat) (h : Nat) (hn1 : Nat) (hL : Nat) (li : Nat) (ev : Int) (mk : Int) (ou : Int) (up : Int64) (lo : Int64) (fs : List Value) (hs : Nat) (hf : Nat) (hg : Nat) (hc : Nat) (hy : Nat) (n : Int) (ni : Int) (lw : Int) (f : Nat → Int32) (g : Nat → Int32) (x1 : Int) (x2 : Int) (x3 : Int) (x4 : Int) (f1 : fs[1]? = some (.ref hf)) (f2 : fs[2]? = some (.ref hg)) (f3 : fs[3]? = some (.int (iZ n))) (f4 : fs[4]? = some (.int (iZ ni))) (f5 : fs[5]? = some (.int (iZ lw))) (hn : n ≤ 6) (hx0 : FXI f n) (hni : 0 ≤ ni ∧ ni ≤ 8) (hn0 : 0 ≤ n) (hlw : -2147483648 ≤ lw ∧ lw < 2147483648) (h9x1 : -2147483648 ≤ x1 ∧ x1 < 2147483648) (h9x2 : -2147483648 ≤ x2 ∧ x2 < 2147483648) (h9x3 : -2147483648 ≤ x3 ∧ x3 < 2147483648) (h9x4 : -2147483648 ≤ x4 ∧ x4 < 2147483648) : WD (σ := ((Nat → Int) × (Nat → Int64) × (Nat → Nat → Int32) × (Nat → Nat → Int64))) l yX11_light cX11_light 5 (some .int) 2 0 0 D k [.ref hx1, .int (iZ x1), .int (iZ x2), .int (iZ x3), .int (iZ x4)] [(hx1, .inr (11, [.ref ta, .ref hw1, .ref hw12, .ref ka, .ref hr1, .ref hq, .ref hv, .ref h, .ref hn1, .ref hL, .ref li, .int (iZ ev), .int (iZ mk), .int (iZ ou), .long up, .long lo])), (hw1, .inr (8, [.ref hs, .ref hc, .ref hy])), (hs, .inr (5, fs)), (hf, .inl (k 1, 36, .inl f)), (hg, .inl (k 1, 32, .inl g))] (fun u => some (.int (iZ (u.1 0)))) (fun _ => True) (fun u => [(hx1, .inr (11, [.ref ta, .ref hw1, .ref hw12, .ref ka, .ref hr1, .ref hq, .ref hv, .ref h, .ref hn1, .ref hL, .ref li, .int (iZ ev), .int (iZ mk), .int (iZ (u.1 1)), .long up, .long lo])), (hw1, .inr (8, [.ref hs, .ref hc, .ref hy])), (hs, .inr (5, fs)), (hf, .inl (k 1, 36, .inl f)), (hg, .inl (k 1, 32, .inl g))]) := by
  refine MW (by decide) (Nat.le_of_ble_eq_true rfl) (fun p e s m below meth c ls A hx hb hml hr hlocks hin hts hown hKK hP hD hS hA hl => ?_)
  have hK := hKK.1
  have hl : lv_has ls 5 [(0, .ref hx1), (1, .int (iZ x1)), (2, .int (iZ x2)), (3, .int (iZ x3)), (4, .int (iZ x4))] := hl
  refine lv_aload_n hx hb dX11_light_0 rfl (lv_at hl 0 rfl) ?_
  refine lv_iload_n hx hb dX11_light_1 rfl (lv_at hl 1 rfl) ?_
  refine CPV (As := [.int (iZ x1)]) (rest := []) hx hb hml hown hts hKK (hP.sub (ws' := [(hx1, .inr (11, [.ref ta, .ref hw1, .ref hw12, .ref ka, .ref hr1, .ref hq, .ref hv, .ref h, .ref hn1, .ref hL, .ref li, .int (iZ ev), .int (iZ mk), .int (iZ ou), .long up, .long lo])), (hw1, .inr (8, [.ref hs, .ref hc, .ref hy])), (hs, .inr (5, fs))]) [0, 1, 2] rfl) (k_isRock l D k hx1 ta hw1 hw12 ka hr1 hq hv h hn1 hL li ev mk ou up lo fs hs hc hy n x1 f3 ⟨by omega, by omega⟩ ⟨by omega, by omega⟩) ci_X11_isRock qm_X11_221 ⟨Nat.le_of_ble_eq_true rfl, Nat.le_of_ble_eq_true rfl⟩ ⟨Nat.le_of_ble_eq_true rfl, Nat.le_of_ble_eq_true rfl⟩ 0 rfl rfl rfl hl.1 rfl (Nat.le_of_ble_eq_true rfl) dX11_light_2 (fun z_1 hz_1 => ?_)
  rcases hz_1 with ⟨qz_1, hz_1⟩ | ⟨qz_1, hz_1⟩
  ·
    subst qz_1
    refine lv_if_eq (tgt := 37) hx hb dX11_light_5 (by decide) (fun c => absurd c (by decide)) (fun _ => ?_)
    refine lv_aload_n hx hb dX11_light_8 rfl (lv_at hl 0 rfl) ?_
    refine lv_iload_n hx hb dX11_light_9 rfl (lv_at hl 3 rfl) ?_
    refine CPV (As := [.int (iZ x3)]) (rest := []) hx hb hml hown hts hKK (hP.sub (ws' := [(hx1, .inr (11, [.ref ta, .ref hw1, .ref hw12, .ref ka, .ref hr1, .ref hq, .ref hv, .ref h, .ref hn1, .ref hL, .ref li, .int (iZ ev), .int (iZ mk), .int (iZ ou), .long up, .long lo])), (hw1, .inr (8, [.ref hs, .ref hc, .ref hy])), (hs, .inr (5, fs))]) [0, 1, 2] rfl) (k_isRock l D k hx1 ta hw1 hw12 ka hr1 hq hv h hn1 hL li ev mk ou up lo fs hs hc hy n x3 f3 ⟨by omega, by omega⟩ ⟨by omega, by omega⟩) ci_X11_isRock qm_X11_221 ⟨Nat.le_of_ble_eq_true rfl, Nat.le_of_ble_eq_true rfl⟩ ⟨Nat.le_of_ble_eq_true rfl, Nat.le_of_ble_eq_true rfl⟩ 0 rfl rfl rfl hl.1 rfl (Nat.le_of_ble_eq_true rfl) dX11_light_10 (fun z_3 hz_3 => ?_)
    rcases hz_3 with ⟨qz_3, hz_3⟩ | ⟨qz_3, hz_3⟩
    ·
      subst qz_3
      refine lv_if_eq (tgt := 37) hx hb dX11_light_13 (by decide) (fun c => absurd c (by decide)) (fun _ => ?_)
      refine lv_iload_n hx hb dX11_light_16 rfl (lv_at hl 2 rfl) ?_
      refine lv_sipush (v := iZ 500) hx hb dX11_light_17 (by decide) ?_
      refine CPS (As := [.int (iZ x2), .int (iZ 500)]) (rest := []) hx hb hml hown hts hKK (hP.sub (ws' := []) [] rfl) (k_isWithin l D k x2 500 ⟨by omega, by omega⟩ ⟨by omega, by omega⟩) ci_X11_isWithin qm_X11_103 ⟨Nat.le_of_ble_eq_true rfl, Nat.le_of_ble_eq_true rfl⟩ ⟨Nat.le_of_ble_eq_true rfl, Nat.le_of_ble_eq_true rfl⟩ rfl hl.1 rfl (Nat.le_of_ble_eq_true rfl) dX11_light_20 (fun z_5 hz_5 => ?_)
      rcases hz_5 with ⟨qz_5, hz_5⟩ | ⟨qz_5, hz_5⟩
      ·
        subst qz_5
        refine lv_if_eq (tgt := 37) hx hb dX11_light_23 (by decide) (fun c => absurd c (by decide)) (fun _ => ?_)
        refine lv_iload hx hb dX11_light_26 (lv_at hl 4 rfl) ?_
        refine lv_sipush (v := iZ 500) hx hb dX11_light_28 (by decide) ?_
        refine CPS (As := [.int (iZ x4), .int (iZ 500)]) (rest := []) hx hb hml hown hts hKK (hP.sub (ws' := []) [] rfl) (k_isWithin l D k x4 500 ⟨by omega, by omega⟩ ⟨by omega, by omega⟩) ci_X11_isWithin qm_X11_103 ⟨Nat.le_of_ble_eq_true rfl, Nat.le_of_ble_eq_true rfl⟩ ⟨Nat.le_of_ble_eq_true rfl, Nat.le_of_ble_eq_true rfl⟩ rfl hl.1 rfl (Nat.le_of_ble_eq_true rfl) dX11_light_31 (fun z_7 hz_7 => ?_)
        rcases hz_7 with ⟨qz_7, hz_7⟩ | ⟨qz_7, hz_7⟩
        ·
          subst qz_7
          refine lv_if_ne (tgt := 43) hx hb dX11_light_34 (by decide) (fun _ => ?_) (fun c => absurd c (by decide))
          refine lv_aload_n hx hb dX11_light_43 rfl (lv_at hl 0 rfl) ?_
          refine lv_aload_n hx hb dX11_light_44 rfl (lv_at hl 0 rfl) ?_
          refine va_get (D := D) (ci := 11) (v := .ref hw1) (C := RX11) (T := TX11) (N := 16) hx hb hts iX11 hown hK hP 0 rfl rfl 1 (by decide) (hts _ qf_X11_18) (fun _ h => h) rfl dX11_light_45 ?_
          refine va_get (D := D) (ci := 8) (v := .ref hs) (C := RX8) (T := TX8) (N := 3) hx hb hts iX8 hown hK hP 1 rfl rfl 0 (by decide) (hts _ qf_X11_54) (fun _ h => h) rfl dX11_light_48 ?_
          refine lv_iload_n hx hb dX11_light_51 rfl (lv_at hl 1 rfl) ?_
          refine lv_iload_n hx hb dX11_light_52 rfl (lv_at hl 2 rfl) ?_
          refine lv_iload_n hx hb dX11_light_53 rfl (lv_at hl 3 rfl) ?_
          refine lv_iload hx hb dX11_light_54 (lv_at hl 4 rfl) ?_
          refine CRV (As := [.int (iZ x1), .int (iZ x2), .int (iZ x3), .int (iZ x4)]) (rest := [.ref hx1]) hx hb hml hown hts hKK (hP.sub (ws' := [(hs, .inr (5, fs)), (hf, .inl (k 1, 36, .inl f))]) [2, 3] rfl) (k_light l D k hs hf fs f1 f n hn hx0 x1 x2 x3 x4 ⟨by omega, by omega⟩ ⟨by omega, by omega⟩ ⟨by omega, by omega⟩ ⟨by omega, by omega⟩) ci_X5_lightBetween qm_X11_233 ⟨Nat.le_of_ble_eq_true rfl, Nat.le_of_ble_eq_true rfl⟩ ⟨Nat.le_of_ble_eq_true rfl, Nat.le_of_ble_eq_true rfl⟩ 0 rfl rfl rfl hl.1 rfl (Nat.le_of_ble_eq_true rfl) dX11_light_56 ?_
          have hl_h_9 := lt_rg (a := x1) (w := x2) (b := x3) (t := x4) hx0 ⟨by omega, by omega⟩ ⟨by omega, by omega⟩
          refine CWV (As := [.int (iZ (lt f x1 x2 x3 x4))]) (rest := []) (wc := [(hx1, .inr (11, [.ref ta, .ref hw1, .ref hw12, .ref ka, .ref hr1, .ref hq, .ref hv, .ref h, .ref hn1, .ref hL, .ref li, .int (iZ ev), .int (iZ mk), .int (iZ ou), .long up, .long lo]))]) (wr := [(hw1, .inr (8, [.ref hs, .ref hc, .ref hy])), (hs, .inr (5, fs)), (hf, .inl (k 1, 36, .inl f)), (hg, .inl (k 1, 32, .inl g))]) hx hb hml hown hts hKK hP hD hS hA (k_answer l D k hx1 ta hw1 hw12 ka hr1 hq hv h hn1 hL li ev mk ou up lo (lt f x1 x2 x3 x4)) ci_X11_answer qm_X11_174 ⟨Nat.le_of_ble_eq_true rfl, Nat.le_of_ble_eq_true rfl⟩ ⟨Nat.le_of_ble_eq_true rfl, Nat.le_of_ble_eq_true rfl⟩ [0] [1, 2, 3, 4] rfl rfl rfl rfl rfl (by decide) 0 rfl rfl rfl hl.1 rfl (Nat.le_of_ble_eq_true rfl) dX11_light_59 (fun u_10 H locs hφ hP hD hS => ?_)
          obtain ⟨I_11, L_12, F_13, G_14⟩ := u_10
          refine W.eq (g2 := F0 m 62 ls [.int (iZ (lt f x1 x2 x3 x4))]) rfl ?_
          exact EWi hx hb hr hlocks hS (fun i => [(lt f x1 x2 x3 x4), 0].getD i 0, fun i => [0].getD i 0, fun i => [].getD i (fun _ => 0), fun i => [].getD i (fun _ => 0)) rfl trivial (hP.sub [4, 0, 1, 2, 3] rfl) (hD.sub [4, 0, 1, 2, 3] rfl rfl) dX11_light_62
        ·
          subst qz_7
          refine lv_if_ne (tgt := 43) hx hb dX11_light_34 (by decide) (fun c => absurd (by decide) c) (fun _ => ?_)
          refine lv_aload_n hx hb dX11_light_37 rfl (lv_at hl 0 rfl) ?_
          refine lv_iconst (v := iZ 1) hx hb dX11_light_38 (by decide) ?_
          refine CWV (As := [.int (iZ 1)]) (rest := []) (wc := [(hx1, .inr (11, [.ref ta, .ref hw1, .ref hw12, .ref ka, .ref hr1, .ref hq, .ref hv, .ref h, .ref hn1, .ref hL, .ref li, .int (iZ ev), .int (iZ mk), .int (iZ ou), .long up, .long lo]))]) (wr := [(hw1, .inr (8, [.ref hs, .ref hc, .ref hy])), (hs, .inr (5, fs)), (hf, .inl (k 1, 36, .inl f)), (hg, .inl (k 1, 32, .inl g))]) hx hb hml hown hts hKK hP hD hS hA (k_refuse l D k hx1 ta hw1 hw12 ka hr1 hq hv h hn1 hL li ev mk ou up lo 1) ci_X11_refuse qm_X11_126 ⟨Nat.le_of_ble_eq_true rfl, Nat.le_of_ble_eq_true rfl⟩ ⟨Nat.le_of_ble_eq_true rfl, Nat.le_of_ble_eq_true rfl⟩ [0] [1, 2, 3, 4] rfl rfl rfl rfl rfl (by decide) 0 rfl rfl rfl hl.1 rfl (Nat.le_of_ble_eq_true rfl) dX11_light_39 (fun u_17 H locs hφ hP hD hS => ?_)
          obtain ⟨I_18, L_19, F_20, G_21⟩ := u_17
          refine W.eq (g2 := F0 m 42 ls [.int (iZ (-1))]) rfl ?_
          exact EWi hx hb hr hlocks hS (fun i => [(-1), 1].getD i 0, fun i => [0].getD i 0, fun i => [].getD i (fun _ => 0), fun i => [].getD i (fun _ => 0)) rfl trivial (hP.sub [4, 0, 1, 2, 3] rfl) (hD.sub [4, 0, 1, 2, 3] rfl rfl) dX11_light_42
      ·
        subst qz_5
        refine lv_if_eq (tgt := 37) hx hb dX11_light_23 (by decide) (fun _ => ?_) (fun c => absurd (by decide) c)
        refine lv_aload_n hx hb dX11_light_37 rfl (lv_at hl 0 rfl) ?_
        refine lv_iconst (v := iZ 1) hx hb dX11_light_38 (by decide) ?_
        refine CWV (As := [.int (iZ 1)]) (rest := []) (wc := [(hx1, .inr (11, [.ref ta, .ref hw1, .ref hw12, .ref ka, .ref hr1, .ref hq, .ref hv, .ref h, .ref hn1, .ref hL, .ref li, .int (iZ ev), .int (iZ mk), .int (iZ ou), .long up, .long lo]))]) (wr := [(hw1, .inr (8, [.ref hs, .ref hc, .ref hy])), (hs, .inr (5, fs)), (hf, .inl (k 1, 36, .inl f)), (hg, .inl (k 1, 32, .inl g))]) hx hb hml hown hts hKK hP hD hS hA (k_refuse l D k hx1 ta hw1 hw12 ka hr1 hq hv h hn1 hL li ev mk ou up lo 1) ci_X11_refuse qm_X11_126 ⟨Nat.le_of_ble_eq_true rfl, Nat.le_of_ble_eq_true rfl⟩ ⟨Nat.le_of_ble_eq_true rfl, Nat.le_of_ble_eq_true rfl⟩ [0] [1, 2, 3, 4] rfl rfl rfl rfl rfl (by decide) 0 rfl rfl rfl hl.1 rfl (Nat.le_of_ble_eq_true rfl) dX11_light_39 (fun u_24 H locs hφ hP hD hS => ?_)
        obtain ⟨I_25, L_26, F_27, G_28⟩ := u_24
        refine W.eq (g2 := F0 m 42 ls [.int (iZ (-1))]) rfl ?_
        exact EWi hx hb hr hlocks hS (fun i => [(-1), 1].getD i 0, fun i => [0].getD i 0, fun i => [].getD i (fun _ => 0), fun i => [].getD i (fun _ => 0)) rfl trivial (hP.sub [4, 0, 1, 2, 3] rfl) (hD.sub [4, 0, 1, 2, 3] rfl rfl) dX11_light_42
    ·
      subst qz_3
      refine lv_if_eq (tgt := 37) hx hb dX11_light_13 (by decide) (fun _ => ?_) (fun c => absurd (by decide) c)
      refine lv_aload_n hx hb dX11_light_37 rfl (lv_at hl 0 rfl) ?_
      refine lv_iconst (v := iZ 1) hx hb dX11_light_38 (by decide) ?_
      refine CWV (As := [.int (iZ 1)]) (rest := []) (wc := [(hx1, .inr (11, [.ref ta, .ref hw1, .ref hw12, .ref ka, .ref hr1, .ref hq, .ref hv, .ref h, .ref hn1, .ref hL, .ref li, .int (iZ ev), .int (iZ mk), .int (iZ ou), .long up, .long lo]))]) (wr := [(hw1, .inr (8, [.ref hs, .ref hc, .ref hy])), (hs, .inr (5, fs)), (hf, .inl (k 1, 36, .inl f)), (hg, .inl (k 1, 32, .inl g))]) hx hb hml hown hts hKK hP hD hS hA (k_refuse l D k hx1 ta hw1 hw12 ka hr1 hq hv h hn1 hL li ev mk ou up lo 1) ci_X11_refuse qm_X11_126 ⟨Nat.le_of_ble_eq_true rfl, Nat.le_of_ble_eq_true rfl⟩ ⟨Nat.le_of_ble_eq_true rfl, Nat.le_of_ble_eq_true rfl⟩ [0] [1, 2, 3, 4] rfl rfl rfl rfl rfl (by decide) 0 rfl rfl rfl hl.1 rfl (Nat.le_of_ble_eq_true rfl) dX11_light_39 (fun u_31 H locs hφ hP hD hS => ?_)
      obtain ⟨I_32, L_33, F_34, G_35⟩ := u_31
      refine W.eq (g2 := F0 m 42 ls [.int (iZ (-1))]) rfl ?_
      exact EWi hx hb hr hlocks hS (fun i => [(-1), 1].getD i 0, fun i => [0].getD i 0, fun i => [].getD i (fun _ => 0), fun i => [].getD i (fun _ => 0)) rfl trivial (hP.sub [4, 0, 1, 2, 3] rfl) (hD.sub [4, 0, 1, 2, 3] rfl rfl) dX11_light_42
  ·
    subst qz_1
    refine lv_if_eq (tgt := 37) hx hb dX11_light_5 (by decide) (fun _ => ?_) (fun c => absurd (by decide) c)
    refine lv_aload_n hx hb dX11_light_37 rfl (lv_at hl 0 rfl) ?_
    refine lv_iconst (v := iZ 1) hx hb dX11_light_38 (by decide) ?_
    refine CWV (As := [.int (iZ 1)]) (rest := []) (wc := [(hx1, .inr (11, [.ref ta, .ref hw1, .ref hw12, .ref ka, .ref hr1, .ref hq, .ref hv, .ref h, .ref hn1, .ref hL, .ref li, .int (iZ ev), .int (iZ mk), .int (iZ ou), .long up, .long lo]))]) (wr := [(hw1, .inr (8, [.ref hs, .ref hc, .ref hy])), (hs, .inr (5, fs)), (hf, .inl (k 1, 36, .inl f)), (hg, .inl (k 1, 32, .inl g))]) hx hb hml hown hts hKK hP hD hS hA (k_refuse l D k hx1 ta hw1 hw12 ka hr1 hq hv h hn1 hL li ev mk ou up lo 1) ci_X11_refuse qm_X11_126 ⟨Nat.le_of_ble_eq_true rfl, Nat.le_of_ble_eq_true rfl⟩ ⟨Nat.le_of_ble_eq_true rfl, Nat.le_of_ble_eq_true rfl⟩ [0] [1, 2, 3, 4] rfl rfl rfl rfl rfl (by decide) 0 rfl rfl rfl hl.1 rfl (Nat.le_of_ble_eq_true rfl) dX11_light_39 (fun u_38 H locs hφ hP hD hS => ?_)
    obtain ⟨I_39, L_40, F_41, G_42⟩ := u_38
    refine W.eq (g2 := F0 m 42 ls [.int (iZ (-1))]) rfl ?_
    exact EWi hx hb hr hlocks hS (fun i => [(-1), 1].getD i 0, fun i => [0].getD i 0, fun i => [].getD i (fun _ => 0), fun i => [].getD i (fun _ => 0)) rfl trivial (hP.sub [4, 0, 1, 2, 3] rfl) (hD.sub [4, 0, 1, 2, 3] rfl rfl) dX11_light_42
set_option maxHeartbeats 4000000 in
set_option maxRecDepth 100000 in
theorem p_iced (l : Launch) (D : va_G) (k : Nat → ClassId) (hx1 : Nat) (ta : Nat) (hw1 : Nat) (hw12 : Nat) (ka : Nat) (hr1 : Nat) (hq : Nat) (hv : Nat) (h : Nat) (hn1 : Nat) (hL : Nat) (li : Nat) (ev : Int) (mk : Int) (ou : Int) (up : Int64) (lo : Int64) (fs : List Value) (hs : Nat) (hf : Nat) (hg : Nat) (hc : Nat) (hy : Nat) (n : Int) (ni : Int) (lw : Int) (f : Nat → Int32) (g : Nat → Int32) (x1 : Int) (x2 : Int) (x3 : Int) (f1 : fs[1]? = some (.ref hf)) (f2 : fs[2]? = some (.ref hg)) (f3 : fs[3]? = some (.int (iZ n))) (f4 : fs[4]? = some (.int (iZ ni))) (f5 : fs[5]? = some (.int (iZ lw))) (hn : n ≤ 6) (hx0 : FXI f n) (hni : 0 ≤ ni ∧ ni ≤ 8) (hn0 : 0 ≤ n) (hlw : -2147483648 ≤ lw ∧ lw < 2147483648) (h9x1 : -2147483648 ≤ x1 ∧ x1 < 2147483648) (h9x2 : -2147483648 ≤ x2 ∧ x2 < 2147483648) (h9x3 : -2147483648 ≤ x3 ∧ x3 < 2147483648) : WD (σ := ((Nat → Int) × (Nat → Int64) × (Nat → Nat → Int32) × (Nat → Nat → Int64))) l yX11_iced cX11_iced 4 (some .int) 3 0 0 D k [.ref hx1, .int (iZ x1), .int (iZ x2), .int (iZ x3)] [(hx1, .inr (11, [.ref ta, .ref hw1, .ref hw12, .ref ka, .ref hr1, .ref hq, .ref hv, .ref h, .ref hn1, .ref hL, .ref li, .int (iZ ev), .int (iZ mk), .int (iZ ou), .long up, .long lo])), (hw1, .inr (8, [.ref hs, .ref hc, .ref hy])), (hs, .inr (5, fs)), (hf, .inl (k 1, 36, .inl f)), (hg, .inl (k 1, 32, .inl g))] (fun u => some (.int (iZ (u.1 0)))) (fun _ => True) (fun u => [(hx1, .inr (11, [.ref ta, .ref hw1, .ref hw12, .ref ka, .ref hr1, .ref hq, .ref hv, .ref h, .ref hn1, .ref hL, .ref li, .int (iZ ev), .int (iZ mk), .int (iZ (u.1 1)), .long up, .long lo])), (hw1, .inr (8, [.ref hs, .ref hc, .ref hy])), (hs, .inr (5, fs)), (hf, .inl (k 1, 36, .inl f)), (hg, .inl (k 1, 32, .inl g))]) := by
  refine MW (by decide) (Nat.le_of_ble_eq_true rfl) (fun p e s m below meth c ls A hx hb hml hr hlocks hin hts hown hKK hP hD hS hA hl => ?_)
  have hK := hKK.1
  have hl : lv_has ls 4 [(0, .ref hx1), (1, .int (iZ x1)), (2, .int (iZ x2)), (3, .int (iZ x3))] := hl
  refine lv_aload_n hx hb dX11_iced_0 rfl (lv_at hl 0 rfl) ?_
  refine lv_iload_n hx hb dX11_iced_1 rfl (lv_at hl 1 rfl) ?_
  refine lv_iload_n hx hb dX11_iced_2 rfl (lv_at hl 2 rfl) ?_
  refine CPV (As := [.int (iZ x1), .int (iZ x2)]) (rest := []) hx hb hml hown hts hKK (hP.sub (ws' := [(hx1, .inr (11, [.ref ta, .ref hw1, .ref hw12, .ref ka, .ref hr1, .ref hq, .ref hv, .ref h, .ref hn1, .ref hL, .ref li, .int (iZ ev), .int (iZ mk), .int (iZ ou), .long up, .long lo])), (hw1, .inr (8, [.ref hs, .ref hc, .ref hy])), (hs, .inr (5, fs))]) [0, 1, 2] rfl) (k_isCouple l D k hx1 ta hw1 hw12 ka hr1 hq hv h hn1 hL li ev mk ou up lo fs hs hc hy n x1 x2 f3 ⟨by omega, by omega⟩ ⟨by omega, by omega⟩ ⟨by omega, by omega⟩) ci_X11_isCouple qm_X11_237 ⟨Nat.le_of_ble_eq_true rfl, Nat.le_of_ble_eq_true rfl⟩ ⟨Nat.le_of_ble_eq_true rfl, Nat.le_of_ble_eq_true rfl⟩ 0 rfl rfl rfl hl.1 rfl (Nat.le_of_ble_eq_true rfl) dX11_iced_3 (fun z_1 hz_1 => ?_)
  rcases hz_1 with ⟨qz_1, hz_1⟩ | ⟨qz_1, hz_1⟩
  ·
    subst qz_1
    refine lv_if_eq (tgt := 16) hx hb dX11_iced_6 (by decide) (fun c => absurd c (by decide)) (fun _ => ?_)
    refine lv_iload_n hx hb dX11_iced_9 rfl (lv_at hl 3 rfl) ?_
    refine CPS (As := [.int (iZ x3)]) (rest := []) hx hb hml hown hts hKK (hP.sub (ws' := []) [] rfl) (k_isWeek l D k x3 ⟨by omega, by omega⟩) ci_X11_isWeek qm_X11_240 ⟨Nat.le_of_ble_eq_true rfl, Nat.le_of_ble_eq_true rfl⟩ ⟨Nat.le_of_ble_eq_true rfl, Nat.le_of_ble_eq_true rfl⟩ rfl hl.1 rfl (Nat.le_of_ble_eq_true rfl) dX11_iced_10 (fun z_3 hz_3 => ?_)
    rcases hz_3 with ⟨qz_3, hz_3⟩ | ⟨qz_3, hz_3⟩
    ·
      subst qz_3
      refine lv_if_ne (tgt := 22) hx hb dX11_iced_13 (by decide) (fun _ => ?_) (fun c => absurd c (by decide))
      refine lv_aload_n hx hb dX11_iced_22 rfl (lv_at hl 0 rfl) ?_
      refine lv_aload_n hx hb dX11_iced_23 rfl (lv_at hl 0 rfl) ?_
      refine va_get (D := D) (ci := 11) (v := .ref hw1) (C := RX11) (T := TX11) (N := 16) hx hb hts iX11 hown hK hP 0 rfl rfl 1 (by decide) (hts _ qf_X11_18) (fun _ h => h) rfl dX11_iced_24 ?_
      refine va_get (D := D) (ci := 8) (v := .ref hs) (C := RX8) (T := TX8) (N := 3) hx hb hts iX8 hown hK hP 1 rfl rfl 0 (by decide) (hts _ qf_X11_54) (fun _ h => h) rfl dX11_iced_27 ?_
      refine lv_iload_n hx hb dX11_iced_30 rfl (lv_at hl 1 rfl) ?_
      refine lv_iload_n hx hb dX11_iced_31 rfl (lv_at hl 2 rfl) ?_
      refine lv_iload_n hx hb dX11_iced_32 rfl (lv_at hl 3 rfl) ?_
      refine CRV (As := [.int (iZ x1), .int (iZ x2), .int (iZ x3)]) (rest := [.ref hx1]) hx hb hml hown hts hKK (hP.sub (ws' := [(hs, .inr (5, fs)), (hg, .inl (k 1, 32, .inl g))]) [2, 4] rfl) (k_ice l D k hs hg fs f2 g ni f4 hni x1 x2 x3 ⟨by omega, by omega⟩ ⟨by omega, by omega⟩ ⟨by omega, by omega⟩) ci_X5_hasIce qm_X11_243 ⟨Nat.le_of_ble_eq_true rfl, Nat.le_of_ble_eq_true rfl⟩ ⟨Nat.le_of_ble_eq_true rfl, Nat.le_of_ble_eq_true rfl⟩ 0 rfl rfl rfl hl.1 rfl (Nat.le_of_ble_eq_true rfl) dX11_iced_33 ?_
      have hz_h_5 := bz_01 (isIc g ni x1 x2 x3)
      refine lv_if_eq (tgt := 43) hx hb dX11_iced_36 (by decide) (fun c_6 => ?_) (fun c_6 => ?_)
      ·
        have c_6 := (zeq (x := iZ (bz (isIc g ni x1 x2 x3))) (y := iZ 0) rfl rfl ⟨by omega, by omega⟩ ⟨by omega, by omega⟩).mp c_6
        refine lv_iconst (v := iZ 0) hx hb dX11_iced_43 (by decide) ?_
        refine CWV (As := [.int (iZ 0)]) (rest := []) (wc := [(hx1, .inr (11, [.ref ta, .ref hw1, .ref hw12, .ref ka, .ref hr1, .ref hq, .ref hv, .ref h, .ref hn1, .ref hL, .ref li, .int (iZ ev), .int (iZ mk), .int (iZ ou), .long up, .long lo]))]) (wr := [(hw1, .inr (8, [.ref hs, .ref hc, .ref hy])), (hs, .inr (5, fs)), (hf, .inl (k 1, 36, .inl f)), (hg, .inl (k 1, 32, .inl g))]) hx hb hml hown hts hKK hP hD hS hA (k_answer l D k hx1 ta hw1 hw12 ka hr1 hq hv h hn1 hL li ev mk ou up lo 0) ci_X11_answer qm_X11_174 ⟨Nat.le_of_ble_eq_true rfl, Nat.le_of_ble_eq_true rfl⟩ ⟨Nat.le_of_ble_eq_true rfl, Nat.le_of_ble_eq_true rfl⟩ [0] [1, 2, 3, 4] rfl rfl rfl rfl rfl (by decide) 0 rfl rfl rfl hl.1 rfl (Nat.le_of_ble_eq_true rfl) dX11_iced_44 (fun u_7 H locs hφ hP hD hS => ?_)
        obtain ⟨I_8, L_9, F_10, G_11⟩ := u_7
        refine W.eq (g2 := F0 m 47 ls [.int (iZ 0)]) rfl ?_
        exact EWi hx hb hr hlocks hS (fun i => [0, 0].getD i 0, fun i => [0].getD i 0, fun i => [].getD i (fun _ => 0), fun i => [].getD i (fun _ => 0)) rfl trivial (hP.sub [4, 0, 1, 2, 3] rfl) (hD.sub [4, 0, 1, 2, 3] rfl rfl) dX11_iced_47
      ·
        have c_6 := mt (zeq (x := iZ (bz (isIc g ni x1 x2 x3))) (y := iZ 0) rfl rfl ⟨by omega, by omega⟩ ⟨by omega, by omega⟩).mpr c_6
        refine lv_iconst (v := iZ 1) hx hb dX11_iced_39 (by decide) ?_
        refine lv_goto (tgt := 44) hx hb dX11_iced_40 (by decide) ?_
        refine CWV (As := [.int (iZ 1)]) (rest := []) (wc := [(hx1, .inr (11, [.ref ta, .ref hw1, .ref hw12, .ref ka, .ref hr1, .ref hq, .ref hv, .ref h, .ref hn1, .ref hL, .ref li, .int (iZ ev), .int (iZ mk), .int (iZ ou), .long up, .long lo]))]) (wr := [(hw1, .inr (8, [.ref hs, .ref hc, .ref hy])), (hs, .inr (5, fs)), (hf, .inl (k 1, 36, .inl f)), (hg, .inl (k 1, 32, .inl g))]) hx hb hml hown hts hKK hP hD hS hA (k_answer l D k hx1 ta hw1 hw12 ka hr1 hq hv h hn1 hL li ev mk ou up lo 1) ci_X11_answer qm_X11_174 ⟨Nat.le_of_ble_eq_true rfl, Nat.le_of_ble_eq_true rfl⟩ ⟨Nat.le_of_ble_eq_true rfl, Nat.le_of_ble_eq_true rfl⟩ [0] [1, 2, 3, 4] rfl rfl rfl rfl rfl (by decide) 0 rfl rfl rfl hl.1 rfl (Nat.le_of_ble_eq_true rfl) dX11_iced_44 (fun u_13 H locs hφ hP hD hS => ?_)
        obtain ⟨I_14, L_15, F_16, G_17⟩ := u_13
        refine W.eq (g2 := F0 m 47 ls [.int (iZ 1)]) rfl ?_
        exact EWi hx hb hr hlocks hS (fun i => [1, 0].getD i 0, fun i => [0].getD i 0, fun i => [].getD i (fun _ => 0), fun i => [].getD i (fun _ => 0)) rfl trivial (hP.sub [4, 0, 1, 2, 3] rfl) (hD.sub [4, 0, 1, 2, 3] rfl rfl) dX11_iced_47
    ·
      subst qz_3
      refine lv_if_ne (tgt := 22) hx hb dX11_iced_13 (by decide) (fun c => absurd (by decide) c) (fun _ => ?_)
      refine lv_aload_n hx hb dX11_iced_16 rfl (lv_at hl 0 rfl) ?_
      refine lv_iconst (v := iZ 1) hx hb dX11_iced_17 (by decide) ?_
      refine CWV (As := [.int (iZ 1)]) (rest := []) (wc := [(hx1, .inr (11, [.ref ta, .ref hw1, .ref hw12, .ref ka, .ref hr1, .ref hq, .ref hv, .ref h, .ref hn1, .ref hL, .ref li, .int (iZ ev), .int (iZ mk), .int (iZ ou), .long up, .long lo]))]) (wr := [(hw1, .inr (8, [.ref hs, .ref hc, .ref hy])), (hs, .inr (5, fs)), (hf, .inl (k 1, 36, .inl f)), (hg, .inl (k 1, 32, .inl g))]) hx hb hml hown hts hKK hP hD hS hA (k_refuse l D k hx1 ta hw1 hw12 ka hr1 hq hv h hn1 hL li ev mk ou up lo 1) ci_X11_refuse qm_X11_126 ⟨Nat.le_of_ble_eq_true rfl, Nat.le_of_ble_eq_true rfl⟩ ⟨Nat.le_of_ble_eq_true rfl, Nat.le_of_ble_eq_true rfl⟩ [0] [1, 2, 3, 4] rfl rfl rfl rfl rfl (by decide) 0 rfl rfl rfl hl.1 rfl (Nat.le_of_ble_eq_true rfl) dX11_iced_18 (fun u_20 H locs hφ hP hD hS => ?_)
      obtain ⟨I_21, L_22, F_23, G_24⟩ := u_20
      refine W.eq (g2 := F0 m 21 ls [.int (iZ (-1))]) rfl ?_
      exact EWi hx hb hr hlocks hS (fun i => [(-1), 1].getD i 0, fun i => [0].getD i 0, fun i => [].getD i (fun _ => 0), fun i => [].getD i (fun _ => 0)) rfl trivial (hP.sub [4, 0, 1, 2, 3] rfl) (hD.sub [4, 0, 1, 2, 3] rfl rfl) dX11_iced_21
  ·
    subst qz_1
    refine lv_if_eq (tgt := 16) hx hb dX11_iced_6 (by decide) (fun _ => ?_) (fun c => absurd (by decide) c)
    refine lv_aload_n hx hb dX11_iced_16 rfl (lv_at hl 0 rfl) ?_
    refine lv_iconst (v := iZ 1) hx hb dX11_iced_17 (by decide) ?_
    refine CWV (As := [.int (iZ 1)]) (rest := []) (wc := [(hx1, .inr (11, [.ref ta, .ref hw1, .ref hw12, .ref ka, .ref hr1, .ref hq, .ref hv, .ref h, .ref hn1, .ref hL, .ref li, .int (iZ ev), .int (iZ mk), .int (iZ ou), .long up, .long lo]))]) (wr := [(hw1, .inr (8, [.ref hs, .ref hc, .ref hy])), (hs, .inr (5, fs)), (hf, .inl (k 1, 36, .inl f)), (hg, .inl (k 1, 32, .inl g))]) hx hb hml hown hts hKK hP hD hS hA (k_refuse l D k hx1 ta hw1 hw12 ka hr1 hq hv h hn1 hL li ev mk ou up lo 1) ci_X11_refuse qm_X11_126 ⟨Nat.le_of_ble_eq_true rfl, Nat.le_of_ble_eq_true rfl⟩ ⟨Nat.le_of_ble_eq_true rfl, Nat.le_of_ble_eq_true rfl⟩ [0] [1, 2, 3, 4] rfl rfl rfl rfl rfl (by decide) 0 rfl rfl rfl hl.1 rfl (Nat.le_of_ble_eq_true rfl) dX11_iced_18 (fun u_27 H locs hφ hP hD hS => ?_)
    obtain ⟨I_28, L_29, F_30, G_31⟩ := u_27
    refine W.eq (g2 := F0 m 21 ls [.int (iZ (-1))]) rfl ?_
    exact EWi hx hb hr hlocks hS (fun i => [(-1), 1].getD i 0, fun i => [0].getD i 0, fun i => [].getD i (fun _ => 0), fun i => [].getD i (fun _ => 0)) rfl trivial (hP.sub [4, 0, 1, 2, 3] rfl) (hD.sub [4, 0, 1, 2, 3] rfl rfl) dX11_iced_21
set_option maxHeartbeats 4000000 in
set_option maxRecDepth 100000 in
theorem p_ship (l : Launch) (D : va_G) (k : Nat → ClassId) (hx1 : Nat) (ta : Nat) (hw1 : Nat) (hw12 : Nat) (ka : Nat) (hr1 : Nat) (hq : Nat) (hv : Nat) (h : Nat) (hn1 : Nat) (hL : Nat) (li : Nat) (ev : Int) (mk : Int) (ou : Int) (up : Int64) (lo : Int64) (fs : List Value) (hs : Nat) (hf : Nat) (hg : Nat) (hc : Nat) (hy : Nat) (n : Int) (ni : Int) (lw : Int) (f : Nat → Int32) (g : Nat → Int32) (x1 : Int) (x2 : Int) (x3 : Int) (f1 : fs[1]? = some (.ref hf)) (f2 : fs[2]? = some (.ref hg)) (f3 : fs[3]? = some (.int (iZ n))) (f4 : fs[4]? = some (.int (iZ ni))) (f5 : fs[5]? = some (.int (iZ lw))) (hn : n ≤ 6) (hx0 : FXI f n) (hni : 0 ≤ ni ∧ ni ≤ 8) (hn0 : 0 ≤ n) (hlw : -2147483648 ≤ lw ∧ lw < 2147483648) (h9x1 : -2147483648 ≤ x1 ∧ x1 < 2147483648) (h9x2 : -2147483648 ≤ x2 ∧ x2 < 2147483648) (h9x3 : -2147483648 ≤ x3 ∧ x3 < 2147483648) : WD (σ := ((Nat → Int) × (Nat → Int64) × (Nat → Nat → Int32) × (Nat → Nat → Int64))) l yX11_ship cX11_ship 4 (some .int) 2 0 0 D k [.ref hx1, .int (iZ x1), .int (iZ x2), .int (iZ x3)] [(hx1, .inr (11, [.ref ta, .ref hw1, .ref hw12, .ref ka, .ref hr1, .ref hq, .ref hv, .ref h, .ref hn1, .ref hL, .ref li, .int (iZ ev), .int (iZ mk), .int (iZ ou), .long up, .long lo])), (hw1, .inr (8, [.ref hs, .ref hc, .ref hy])), (hs, .inr (5, fs)), (hf, .inl (k 1, 36, .inl f)), (hg, .inl (k 1, 32, .inl g))] (fun u => some (.int (iZ (u.1 0)))) (fun _ => True) (fun u => [(hx1, .inr (11, [.ref ta, .ref hw1, .ref hw12, .ref ka, .ref hr1, .ref hq, .ref hv, .ref h, .ref hn1, .ref hL, .ref li, .int (iZ ev), .int (iZ mk), .int (iZ (u.1 1)), .long up, .long lo])), (hw1, .inr (8, [.ref hs, .ref hc, .ref hy])), (hs, .inr (5, fs)), (hf, .inl (k 1, 36, .inl f)), (hg, .inl (k 1, 32, .inl g))]) := by
  refine MW (by decide) (Nat.le_of_ble_eq_true rfl) (fun p e s m below meth c ls A hx hb hml hr hlocks hin hts hown hKK hP hD hS hA hl => ?_)
  have hK := hKK.1
  have hl : lv_has ls 4 [(0, .ref hx1), (1, .int (iZ x1)), (2, .int (iZ x2)), (3, .int (iZ x3))] := hl
  refine lv_aload_n hx hb dX11_ship_0 rfl (lv_at hl 0 rfl) ?_
  refine lv_iload_n hx hb dX11_ship_1 rfl (lv_at hl 1 rfl) ?_
  refine CPV (As := [.int (iZ x1)]) (rest := []) hx hb hml hown hts hKK (hP.sub (ws' := [(hx1, .inr (11, [.ref ta, .ref hw1, .ref hw12, .ref ka, .ref hr1, .ref hq, .ref hv, .ref h, .ref hn1, .ref hL, .ref li, .int (iZ ev), .int (iZ mk), .int (iZ ou), .long up, .long lo])), (hw1, .inr (8, [.ref hs, .ref hc, .ref hy])), (hs, .inr (5, fs))]) [0, 1, 2] rfl) (k_isRock l D k hx1 ta hw1 hw12 ka hr1 hq hv h hn1 hL li ev mk ou up lo fs hs hc hy n x1 f3 ⟨by omega, by omega⟩ ⟨by omega, by omega⟩) ci_X11_isRock qm_X11_221 ⟨Nat.le_of_ble_eq_true rfl, Nat.le_of_ble_eq_true rfl⟩ ⟨Nat.le_of_ble_eq_true rfl, Nat.le_of_ble_eq_true rfl⟩ 0 rfl rfl rfl hl.1 rfl (Nat.le_of_ble_eq_true rfl) dX11_ship_2 (fun z_1 hz_1 => ?_)
  rcases hz_1 with ⟨qz_1, hz_1⟩ | ⟨qz_1, hz_1⟩
  ·
    subst qz_1
    refine lv_if_eq (tgt := 23) hx hb dX11_ship_5 (by decide) (fun c => absurd c (by decide)) (fun _ => ?_)
    refine lv_aload_n hx hb dX11_ship_8 rfl (lv_at hl 0 rfl) ?_
    refine lv_iload_n hx hb dX11_ship_9 rfl (lv_at hl 3 rfl) ?_
    refine CPV (As := [.int (iZ x3)]) (rest := []) hx hb hml hown hts hKK (hP.sub (ws' := [(hx1, .inr (11, [.ref ta, .ref hw1, .ref hw12, .ref ka, .ref hr1, .ref hq, .ref hv, .ref h, .ref hn1, .ref hL, .ref li, .int (iZ ev), .int (iZ mk), .int (iZ ou), .long up, .long lo])), (hw1, .inr (8, [.ref hs, .ref hc, .ref hy])), (hs, .inr (5, fs))]) [0, 1, 2] rfl) (k_isRock l D k hx1 ta hw1 hw12 ka hr1 hq hv h hn1 hL li ev mk ou up lo fs hs hc hy n x3 f3 ⟨by omega, by omega⟩ ⟨by omega, by omega⟩) ci_X11_isRock qm_X11_221 ⟨Nat.le_of_ble_eq_true rfl, Nat.le_of_ble_eq_true rfl⟩ ⟨Nat.le_of_ble_eq_true rfl, Nat.le_of_ble_eq_true rfl⟩ 0 rfl rfl rfl hl.1 rfl (Nat.le_of_ble_eq_true rfl) dX11_ship_10 (fun z_3 hz_3 => ?_)
    rcases hz_3 with ⟨qz_3, hz_3⟩ | ⟨qz_3, hz_3⟩
    ·
      subst qz_3
      refine lv_if_eq (tgt := 23) hx hb dX11_ship_13 (by decide) (fun c => absurd c (by decide)) (fun _ => ?_)
      refine lv_iload_n hx hb dX11_ship_16 rfl (lv_at hl 2 rfl) ?_
      refine CPS (As := [.int (iZ x2)]) (rest := []) hx hb hml hown hts hKK (hP.sub (ws' := []) [] rfl) (k_isWeek l D k x2 ⟨by omega, by omega⟩) ci_X11_isWeek qm_X11_240 ⟨Nat.le_of_ble_eq_true rfl, Nat.le_of_ble_eq_true rfl⟩ ⟨Nat.le_of_ble_eq_true rfl, Nat.le_of_ble_eq_true rfl⟩ rfl hl.1 rfl (Nat.le_of_ble_eq_true rfl) dX11_ship_17 (fun z_5 hz_5 => ?_)
      rcases hz_5 with ⟨qz_5, hz_5⟩ | ⟨qz_5, hz_5⟩
      ·
        subst qz_5
        refine lv_if_ne (tgt := 29) hx hb dX11_ship_20 (by decide) (fun _ => ?_) (fun c => absurd c (by decide))
        refine lv_aload_n hx hb dX11_ship_29 rfl (lv_at hl 0 rfl) ?_
        refine lv_aload_n hx hb dX11_ship_30 rfl (lv_at hl 0 rfl) ?_
        refine va_get (D := D) (ci := 11) (v := .ref hw1) (C := RX11) (T := TX11) (N := 16) hx hb hts iX11 hown hK hP 0 rfl rfl 1 (by decide) (hts _ qf_X11_18) (fun _ h => h) rfl dX11_ship_31 ?_
        refine va_get (D := D) (ci := 8) (v := .ref hs) (C := RX8) (T := TX8) (N := 3) hx hb hts iX8 hown hK hP 1 rfl rfl 0 (by decide) (hts _ qf_X11_54) (fun _ h => h) rfl dX11_ship_34 ?_
        refine lv_iload_n hx hb dX11_ship_37 rfl (lv_at hl 1 rfl) ?_
        refine lv_iload_n hx hb dX11_ship_38 rfl (lv_at hl 2 rfl) ?_
        refine lv_iload_n hx hb dX11_ship_39 rfl (lv_at hl 3 rfl) ?_
        refine CPV (As := [.int (iZ x1), .int (iZ x2), .int (iZ x3)]) (rest := [.ref hx1]) hx hb hml hown hts hKK (hP.sub (ws' := [(hs, .inr (5, fs)), (hf, .inl (k 1, 36, .inl f))]) [2, 3] rfl) (k_landing l D k hs hf fs f1 f n hn hx0 x1 x2 x3 ⟨by omega, by omega⟩ ⟨by omega, by omega⟩ ⟨by omega, by omega⟩) ci_X5_landing qm_X11_254 ⟨Nat.le_of_ble_eq_true rfl, Nat.le_of_ble_eq_true rfl⟩ ⟨Nat.le_of_ble_eq_true rfl, Nat.le_of_ble_eq_true rfl⟩ 0 rfl rfl rfl hl.1 rfl (Nat.le_of_ble_eq_true rfl) dX11_ship_40 (fun z_7 hz_7 => ?_)
        have hrz_7 := ld_rg hx0 ⟨by omega, by omega⟩ ⟨by omega, by omega⟩ hz_7
        refine CWV (As := [.int (iZ z_7)]) (rest := []) (wc := [(hx1, .inr (11, [.ref ta, .ref hw1, .ref hw12, .ref ka, .ref hr1, .ref hq, .ref hv, .ref h, .ref hn1, .ref hL, .ref li, .int (iZ ev), .int (iZ mk), .int (iZ ou), .long up, .long lo]))]) (wr := [(hw1, .inr (8, [.ref hs, .ref hc, .ref hy])), (hs, .inr (5, fs)), (hf, .inl (k 1, 36, .inl f)), (hg, .inl (k 1, 32, .inl g))]) hx hb hml hown hts hKK hP hD hS hA (k_answer l D k hx1 ta hw1 hw12 ka hr1 hq hv h hn1 hL li ev mk ou up lo z_7) ci_X11_answer qm_X11_174 ⟨Nat.le_of_ble_eq_true rfl, Nat.le_of_ble_eq_true rfl⟩ ⟨Nat.le_of_ble_eq_true rfl, Nat.le_of_ble_eq_true rfl⟩ [0] [1, 2, 3, 4] rfl rfl rfl rfl rfl (by decide) 0 rfl rfl rfl hl.1 rfl (Nat.le_of_ble_eq_true rfl) dX11_ship_43 (fun u_8 H locs hφ hP hD hS => ?_)
        obtain ⟨I_9, L_10, F_11, G_12⟩ := u_8
        refine W.eq (g2 := F0 m 46 ls [.int (iZ z_7)]) rfl ?_
        exact EWi hx hb hr hlocks hS (fun i => [z_7, 0].getD i 0, fun i => [0].getD i 0, fun i => [].getD i (fun _ => 0), fun i => [].getD i (fun _ => 0)) rfl trivial (hP.sub [4, 0, 1, 2, 3] rfl) (hD.sub [4, 0, 1, 2, 3] rfl rfl) dX11_ship_46
      ·
        subst qz_5
        refine lv_if_ne (tgt := 29) hx hb dX11_ship_20 (by decide) (fun c => absurd (by decide) c) (fun _ => ?_)
        refine lv_aload_n hx hb dX11_ship_23 rfl (lv_at hl 0 rfl) ?_
        refine lv_iconst (v := iZ 1) hx hb dX11_ship_24 (by decide) ?_
        refine CWV (As := [.int (iZ 1)]) (rest := []) (wc := [(hx1, .inr (11, [.ref ta, .ref hw1, .ref hw12, .ref ka, .ref hr1, .ref hq, .ref hv, .ref h, .ref hn1, .ref hL, .ref li, .int (iZ ev), .int (iZ mk), .int (iZ ou), .long up, .long lo]))]) (wr := [(hw1, .inr (8, [.ref hs, .ref hc, .ref hy])), (hs, .inr (5, fs)), (hf, .inl (k 1, 36, .inl f)), (hg, .inl (k 1, 32, .inl g))]) hx hb hml hown hts hKK hP hD hS hA (k_refuse l D k hx1 ta hw1 hw12 ka hr1 hq hv h hn1 hL li ev mk ou up lo 1) ci_X11_refuse qm_X11_126 ⟨Nat.le_of_ble_eq_true rfl, Nat.le_of_ble_eq_true rfl⟩ ⟨Nat.le_of_ble_eq_true rfl, Nat.le_of_ble_eq_true rfl⟩ [0] [1, 2, 3, 4] rfl rfl rfl rfl rfl (by decide) 0 rfl rfl rfl hl.1 rfl (Nat.le_of_ble_eq_true rfl) dX11_ship_25 (fun u_15 H locs hφ hP hD hS => ?_)
        obtain ⟨I_16, L_17, F_18, G_19⟩ := u_15
        refine W.eq (g2 := F0 m 28 ls [.int (iZ (-1))]) rfl ?_
        exact EWi hx hb hr hlocks hS (fun i => [(-1), 1].getD i 0, fun i => [0].getD i 0, fun i => [].getD i (fun _ => 0), fun i => [].getD i (fun _ => 0)) rfl trivial (hP.sub [4, 0, 1, 2, 3] rfl) (hD.sub [4, 0, 1, 2, 3] rfl rfl) dX11_ship_28
    ·
      subst qz_3
      refine lv_if_eq (tgt := 23) hx hb dX11_ship_13 (by decide) (fun _ => ?_) (fun c => absurd (by decide) c)
      refine lv_aload_n hx hb dX11_ship_23 rfl (lv_at hl 0 rfl) ?_
      refine lv_iconst (v := iZ 1) hx hb dX11_ship_24 (by decide) ?_
      refine CWV (As := [.int (iZ 1)]) (rest := []) (wc := [(hx1, .inr (11, [.ref ta, .ref hw1, .ref hw12, .ref ka, .ref hr1, .ref hq, .ref hv, .ref h, .ref hn1, .ref hL, .ref li, .int (iZ ev), .int (iZ mk), .int (iZ ou), .long up, .long lo]))]) (wr := [(hw1, .inr (8, [.ref hs, .ref hc, .ref hy])), (hs, .inr (5, fs)), (hf, .inl (k 1, 36, .inl f)), (hg, .inl (k 1, 32, .inl g))]) hx hb hml hown hts hKK hP hD hS hA (k_refuse l D k hx1 ta hw1 hw12 ka hr1 hq hv h hn1 hL li ev mk ou up lo 1) ci_X11_refuse qm_X11_126 ⟨Nat.le_of_ble_eq_true rfl, Nat.le_of_ble_eq_true rfl⟩ ⟨Nat.le_of_ble_eq_true rfl, Nat.le_of_ble_eq_true rfl⟩ [0] [1, 2, 3, 4] rfl rfl rfl rfl rfl (by decide) 0 rfl rfl rfl hl.1 rfl (Nat.le_of_ble_eq_true rfl) dX11_ship_25 (fun u_22 H locs hφ hP hD hS => ?_)
      obtain ⟨I_23, L_24, F_25, G_26⟩ := u_22
      refine W.eq (g2 := F0 m 28 ls [.int (iZ (-1))]) rfl ?_
      exact EWi hx hb hr hlocks hS (fun i => [(-1), 1].getD i 0, fun i => [0].getD i 0, fun i => [].getD i (fun _ => 0), fun i => [].getD i (fun _ => 0)) rfl trivial (hP.sub [4, 0, 1, 2, 3] rfl) (hD.sub [4, 0, 1, 2, 3] rfl rfl) dX11_ship_28
  ·
    subst qz_1
    refine lv_if_eq (tgt := 23) hx hb dX11_ship_5 (by decide) (fun _ => ?_) (fun c => absurd (by decide) c)
    refine lv_aload_n hx hb dX11_ship_23 rfl (lv_at hl 0 rfl) ?_
    refine lv_iconst (v := iZ 1) hx hb dX11_ship_24 (by decide) ?_
    refine CWV (As := [.int (iZ 1)]) (rest := []) (wc := [(hx1, .inr (11, [.ref ta, .ref hw1, .ref hw12, .ref ka, .ref hr1, .ref hq, .ref hv, .ref h, .ref hn1, .ref hL, .ref li, .int (iZ ev), .int (iZ mk), .int (iZ ou), .long up, .long lo]))]) (wr := [(hw1, .inr (8, [.ref hs, .ref hc, .ref hy])), (hs, .inr (5, fs)), (hf, .inl (k 1, 36, .inl f)), (hg, .inl (k 1, 32, .inl g))]) hx hb hml hown hts hKK hP hD hS hA (k_refuse l D k hx1 ta hw1 hw12 ka hr1 hq hv h hn1 hL li ev mk ou up lo 1) ci_X11_refuse qm_X11_126 ⟨Nat.le_of_ble_eq_true rfl, Nat.le_of_ble_eq_true rfl⟩ ⟨Nat.le_of_ble_eq_true rfl, Nat.le_of_ble_eq_true rfl⟩ [0] [1, 2, 3, 4] rfl rfl rfl rfl rfl (by decide) 0 rfl rfl rfl hl.1 rfl (Nat.le_of_ble_eq_true rfl) dX11_ship_25 (fun u_29 H locs hφ hP hD hS => ?_)
    obtain ⟨I_30, L_31, F_32, G_33⟩ := u_29
    refine W.eq (g2 := F0 m 28 ls [.int (iZ (-1))]) rfl ?_
    exact EWi hx hb hr hlocks hS (fun i => [(-1), 1].getD i 0, fun i => [0].getD i 0, fun i => [].getD i (fun _ => 0), fun i => [].getD i (fun _ => 0)) rfl trivial (hP.sub [4, 0, 1, 2, 3] rfl) (hD.sub [4, 0, 1, 2, 3] rfl rfl) dX11_ship_28
set_option maxHeartbeats 4000000 in
set_option maxRecDepth 100000 in
theorem p_nearest (l : Launch) (D : va_G) (k : Nat → ClassId) (hx1 : Nat) (ta : Nat) (hw1 : Nat) (hw12 : Nat) (ka : Nat) (hr1 : Nat) (hq : Nat) (hv : Nat) (h : Nat) (hn1 : Nat) (hL : Nat) (li : Nat) (ev : Int) (mk : Int) (ou : Int) (up : Int64) (lo : Int64) (fs : List Value) (hs : Nat) (hf : Nat) (hg : Nat) (hc : Nat) (hy : Nat) (n : Int) (ni : Int) (lw : Int) (f : Nat → Int32) (g : Nat → Int32) (x1 : Int) (x2 : Int) (f1 : fs[1]? = some (.ref hf)) (f2 : fs[2]? = some (.ref hg)) (f3 : fs[3]? = some (.int (iZ n))) (f4 : fs[4]? = some (.int (iZ ni))) (f5 : fs[5]? = some (.int (iZ lw))) (hn : n ≤ 6) (hx0 : FXI f n) (hni : 0 ≤ ni ∧ ni ≤ 8) (hn0 : 0 ≤ n) (hlw : -2147483648 ≤ lw ∧ lw < 2147483648) (h9x1 : -2147483648 ≤ x1 ∧ x1 < 2147483648) (h9x2 : -2147483648 ≤ x2 ∧ x2 < 2147483648) : WD (σ := ((Nat → Int) × (Nat → Int64) × (Nat → Nat → Int32) × (Nat → Nat → Int64))) l yX11_nearest cX11_nearest 7 (some .int) 2 0 0 D k [.ref hx1, .int (iZ x1), .int (iZ x2)] [(hx1, .inr (11, [.ref ta, .ref hw1, .ref hw12, .ref ka, .ref hr1, .ref hq, .ref hv, .ref h, .ref hn1, .ref hL, .ref li, .int (iZ ev), .int (iZ mk), .int (iZ ou), .long up, .long lo])), (hw1, .inr (8, [.ref hs, .ref hc, .ref hy])), (hs, .inr (5, fs)), (hf, .inl (k 1, 36, .inl f)), (hg, .inl (k 1, 32, .inl g))] (fun u => some (.int (iZ (u.1 0)))) (fun _ => True) (fun u => [(hx1, .inr (11, [.ref ta, .ref hw1, .ref hw12, .ref ka, .ref hr1, .ref hq, .ref hv, .ref h, .ref hn1, .ref hL, .ref li, .int (iZ ev), .int (iZ mk), .int (iZ (u.1 1)), .long up, .long lo])), (hw1, .inr (8, [.ref hs, .ref hc, .ref hy])), (hs, .inr (5, fs)), (hf, .inl (k 1, 36, .inl f)), (hg, .inl (k 1, 32, .inl g))]) := by
  refine MW (by decide) (Nat.le_of_ble_eq_true rfl) (fun p e s m below meth c ls A hx hb hml hr hlocks hin hts hown hKK hP hD hS hA hl => ?_)
  have hK := hKK.1
  have hl : lv_has ls 7 [(0, .ref hx1), (1, .int (iZ x1)), (2, .int (iZ x2))] := hl
  refine lv_aload_n hx hb dX11_nearest_0 rfl (lv_at hl 0 rfl) ?_
  refine lv_iload_n hx hb dX11_nearest_1 rfl (lv_at hl 1 rfl) ?_
  refine CPV (As := [.int (iZ x1)]) (rest := []) hx hb hml hown hts hKK (hP.sub (ws' := [(hx1, .inr (11, [.ref ta, .ref hw1, .ref hw12, .ref ka, .ref hr1, .ref hq, .ref hv, .ref h, .ref hn1, .ref hL, .ref li, .int (iZ ev), .int (iZ mk), .int (iZ ou), .long up, .long lo])), (hw1, .inr (8, [.ref hs, .ref hc, .ref hy])), (hs, .inr (5, fs))]) [0, 1, 2] rfl) (k_isRock l D k hx1 ta hw1 hw12 ka hr1 hq hv h hn1 hL li ev mk ou up lo fs hs hc hy n x1 f3 ⟨by omega, by omega⟩ ⟨by omega, by omega⟩) ci_X11_isRock qm_X11_221 ⟨Nat.le_of_ble_eq_true rfl, Nat.le_of_ble_eq_true rfl⟩ ⟨Nat.le_of_ble_eq_true rfl, Nat.le_of_ble_eq_true rfl⟩ 0 rfl rfl rfl hl.1 rfl (Nat.le_of_ble_eq_true rfl) dX11_nearest_2 (fun z_1 hz_1 => ?_)
  rcases hz_1 with ⟨qz_1, hz_1⟩ | ⟨qz_1, hz_1⟩
  ·
    subst qz_1
    refine lv_if_eq (tgt := 15) hx hb dX11_nearest_5 (by decide) (fun c => absurd c (by decide)) (fun _ => ?_)
    refine lv_iload_n hx hb dX11_nearest_8 rfl (lv_at hl 2 rfl) ?_
    refine CPS (As := [.int (iZ x2)]) (rest := []) hx hb hml hown hts hKK (hP.sub (ws' := []) [] rfl) (k_isWeek l D k x2 ⟨by omega, by omega⟩) ci_X11_isWeek qm_X11_240 ⟨Nat.le_of_ble_eq_true rfl, Nat.le_of_ble_eq_true rfl⟩ ⟨Nat.le_of_ble_eq_true rfl, Nat.le_of_ble_eq_true rfl⟩ rfl hl.1 rfl (Nat.le_of_ble_eq_true rfl) dX11_nearest_9 (fun z_3 hz_3 => ?_)
    rcases hz_3 with ⟨qz_3, hz_3⟩ | ⟨qz_3, hz_3⟩
    ·
      subst qz_3
      refine lv_if_ne (tgt := 21) hx hb dX11_nearest_12 (by decide) (fun _ => ?_) (fun c => absurd c (by decide))
      refine lv_iconst (v := iZ (-1)) hx hb dX11_nearest_21 (by decide) ?_
      refine lv_istore_n (lv' := [(3, .int (iZ (-1))), (0, .ref hx1), (1, .int (iZ x1)), (2, .int (iZ x2))]) hx hb dX11_nearest_22 rfl hl (by decide) rfl (fun ls hl => ?_)
      refine lv_iconst (v := iZ 0) hx hb dX11_nearest_23 (by decide) ?_
      refine lv_istore (lv' := [(4, .int (iZ 0)), (3, .int (iZ (-1))), (0, .ref hx1), (1, .int (iZ x1)), (2, .int (iZ x2))]) hx hb dX11_nearest_24 hl (by decide) rfl (fun ls hl => ?_)
      refine lv_iconst (v := iZ 0) hx hb dX11_nearest_26 (by decide) ?_
      refine lv_istore (lv' := [(5, .int (iZ 0)), (4, .int (iZ 0)), (3, .int (iZ (-1))), (0, .ref hx1), (1, .int (iZ x1)), (2, .int (iZ x2))]) hx hb dX11_nearest_27 hl (by decide) rfl (fun ls hl => ?_)
      have HL29 : ∀ (fu : Nat) (v4_29 : Int) (v3_29 : Int) (v5_29 : Int) (H : Heap) (locs : List Loc) (ls : Array Slot), ((n) + 2 - v5_29) < (fu : Int) → ((0 ≤ v5_29 ∧ v5_29 ≤ (n) + 1)) → (-1 ≤ v3_29 ∧ v3_29 < n) → (0 ≤ v4_29 ∧ v4_29 ≤ 20) → va_P D vwCl [(hx1, .inr (11, [.ref ta, .ref hw1, .ref hw12, .ref ka, .ref hr1, .ref hq, .ref hv, .ref h, .ref hn1, .ref hL, .ref li, .int (iZ ev), .int (iZ mk), .int (iZ ou), .long up, .long lo])), (hw1, .inr (8, [.ref hs, .ref hc, .ref hy])), (hs, .inr (5, fs)), (hf, .inl (k 1, 36, .inl f)), (hg, .inl (k 1, 32, .inl g))] H → va_D A [(hx1, .inr (11, [.ref ta, .ref hw1, .ref hw12, .ref ka, .ref hr1, .ref hq, .ref hv, .ref h, .ref hn1, .ref hL, .ref li, .int (iZ ev), .int (iZ mk), .int (iZ ou), .long up, .long lo])), (hw1, .inr (8, [.ref hs, .ref hc, .ref hy])), (hs, .inr (5, fs)), (hf, .inl (k 1, 36, .inl f)), (hg, .inl (k 1, 32, .inl g))] → va_S A s.heap H locs → lv_has ls 7 [(5, .int (iZ v5_29)), (4, .int (iZ v4_29)), (3, .int (iZ v3_29)), (0, .ref hx1), (1, .int (iZ x1)), (2, .int (iZ x2))] → W p l e (rj 2 0 0) s m [.ref hx1, .int (iZ x1), .int (iZ x2)].toArray below meth c H locs 0 0 (MQ below (QW (σ := ((Nat → Int) × (Nat → Int64) × (Nat → Nat → Int32) × (Nat → Nat → Int64))) (fun u => some (.int (iZ (u.1 0)))) (fun _ => True) (fun u => [(hx1, .inr (11, [.ref ta, .ref hw1, .ref hw12, .ref ka, .ref hr1, .ref hq, .ref hv, .ref h, .ref hn1, .ref hL, .ref li, .int (iZ ev), .int (iZ mk), .int (iZ (u.1 1)), .long up, .long lo])), (hw1, .inr (8, [.ref hs, .ref hc, .ref hy])), (hs, .inr (5, fs)), (hf, .inl (k 1, 36, .inl f)), (hg, .inl (k 1, 32, .inl g))]) D A) [.ref hx1, .int (iZ x1), .int (iZ x2)].toArray s 0 0 A) (F0 m 29 ls []) := by
        intro fu
        induction fu with
        | zero => intro v4_29 v3_29 v5_29 H locs ls hμ29 hi29 hf0_29 hf1_29 hP hD hS hl; exact absurd hμ29 (by omega)
        | succ fu ih29 =>
          intro v4_29 v3_29 v5_29 H locs ls hμ29 hi29 hf0_29 hf1_29 hP hD hS hl
          refine lv_iload hx hb dX11_nearest_29 (lv_at hl 0 rfl) ?_
          refine lv_aload_n hx hb dX11_nearest_31 rfl (lv_at hl 3 rfl) ?_
          refine va_get (D := D) (ci := 11) (v := .ref hw1) (C := RX11) (T := TX11) (N := 16) hx hb hts iX11 hown hK hP 0 rfl rfl 1 (by decide) (hts _ qf_X11_18) (fun _ h => h) rfl dX11_nearest_32 ?_
          refine va_get (D := D) (ci := 8) (v := .ref hs) (C := RX8) (T := TX8) (N := 3) hx hb hts iX8 hown hK hP 1 rfl rfl 0 (by decide) (hts _ qf_X11_54) (fun _ h => h) rfl dX11_nearest_35 ?_
          refine va_get (D := D) (ci := 5) (v := .int (iZ n)) (C := RX5) (T := TX5) (N := 7) hx hb hts iX5 hown hK hP 2 rfl rfl 3 (by decide) (hts _ qf_X11_169) (fun _ h => h) f3 dX11_nearest_38 ?_
          refine lv_icmp_ge (tgt := 92) hx hb dX11_nearest_41 (by decide) (fun c_5 => ?_) (fun c_5 => ?_)
          ·
            have c_5 := (zle (x := iZ n) (y := iZ v5_29) rfl rfl ⟨by omega, by omega⟩ ⟨by omega, by omega⟩).mp c_5
            refine lv_aload_n hx hb dX11_nearest_92 rfl (lv_at hl 3 rfl) ?_
            refine lv_iload_n hx hb dX11_nearest_93 rfl (lv_at hl 2 rfl) ?_
            refine CWV (As := [.int (iZ v3_29)]) (rest := []) (wc := [(hx1, .inr (11, [.ref ta, .ref hw1, .ref hw12, .ref ka, .ref hr1, .ref hq, .ref hv, .ref h, .ref hn1, .ref hL, .ref li, .int (iZ ev), .int (iZ mk), .int (iZ ou), .long up, .long lo]))]) (wr := [(hw1, .inr (8, [.ref hs, .ref hc, .ref hy])), (hs, .inr (5, fs)), (hf, .inl (k 1, 36, .inl f)), (hg, .inl (k 1, 32, .inl g))]) hx hb hml hown hts hKK hP hD hS hA (k_answerIfAny l D k hx1 ta hw1 hw12 ka hr1 hq hv h hn1 hL li ev mk ou up lo v3_29 ⟨by omega, by omega⟩) ci_X11_answerIfAny qm_X11_251 ⟨Nat.le_of_ble_eq_true rfl, Nat.le_of_ble_eq_true rfl⟩ ⟨Nat.le_of_ble_eq_true rfl, Nat.le_of_ble_eq_true rfl⟩ [0] [1, 2, 3, 4] rfl rfl rfl rfl rfl (by decide) 0 rfl rfl rfl hl.1 rfl (Nat.le_of_ble_eq_true rfl) dX11_nearest_94 (fun u_6 H locs hφ hP hD hS => ?_)
            obtain ⟨I_7, L_8, F_9, G_10⟩ := u_6
            have p_12 : (v3_29 = -1 ∧ (I_7 1) = 6) ∨ (¬ v3_29 = -1 ∧ (I_7 1) = 0) := hφ
            refine W.eq (g2 := F0 m 97 ls [.int (iZ v3_29)]) rfl ?_
            exact EWi hx hb hr hlocks hS (fun i => [v3_29, (I_7 1)].getD i 0, fun i => [0].getD i 0, fun i => [].getD i (fun _ => 0), fun i => [].getD i (fun _ => 0)) rfl trivial (hP.sub [4, 0, 1, 2, 3] rfl) (hD.sub [4, 0, 1, 2, 3] rfl rfl) dX11_nearest_97
          ·
            have c_5 := mt (zle (x := iZ n) (y := iZ v5_29) rfl rfl ⟨by omega, by omega⟩ ⟨by omega, by omega⟩).mpr c_5
            refine lv_aload_n hx hb dX11_nearest_44 rfl (lv_at hl 3 rfl) ?_
            refine va_get (D := D) (ci := 11) (v := .ref hw1) (C := RX11) (T := TX11) (N := 16) hx hb hts iX11 hown hK hP 0 rfl rfl 1 (by decide) (hts _ qf_X11_18) (fun _ h => h) rfl dX11_nearest_45 ?_
            refine va_get (D := D) (ci := 8) (v := .ref hs) (C := RX8) (T := TX8) (N := 3) hx hb hts iX8 hown hK hP 1 rfl rfl 0 (by decide) (hts _ qf_X11_54) (fun _ h => h) rfl dX11_nearest_48 ?_
            refine lv_iload_n hx hb dX11_nearest_51 rfl (lv_at hl 4 rfl) ?_
            refine lv_iload_n hx hb dX11_nearest_52 rfl (lv_at hl 5 rfl) ?_
            refine lv_iload hx hb dX11_nearest_53 (lv_at hl 0 rfl) ?_
            refine lv_iload_n hx hb dX11_nearest_55 rfl (lv_at hl 5 rfl) ?_
            refine CRV (As := [.int (iZ x1), .int (iZ x2), .int (iZ v5_29), .int (iZ x2)]) (rest := []) hx hb hml hown hts hKK (hP.sub (ws' := [(hs, .inr (5, fs)), (hf, .inl (k 1, 36, .inl f))]) [2, 3] rfl) (k_light l D k hs hf fs f1 f n hn hx0 x1 x2 v5_29 x2 ⟨by omega, by omega⟩ ⟨by omega, by omega⟩ ⟨by omega, by omega⟩ ⟨by omega, by omega⟩) ci_X5_lightBetween qm_X11_233 ⟨Nat.le_of_ble_eq_true rfl, Nat.le_of_ble_eq_true rfl⟩ ⟨Nat.le_of_ble_eq_true rfl, Nat.le_of_ble_eq_true rfl⟩ 0 rfl rfl rfl hl.1 rfl (Nat.le_of_ble_eq_true rfl) dX11_nearest_56 ?_
            have hl_h_13 := lt_rg (a := x1) (w := x2) (b := v5_29) (t := x2) hx0 ⟨by omega, by omega⟩ ⟨by omega, by omega⟩
            refine lv_istore (lv' := [(6, .int (iZ (lt f x1 x2 v5_29 x2))), (5, .int (iZ v5_29)), (4, .int (iZ v4_29)), (3, .int (iZ v3_29)), (0, .ref hx1), (1, .int (iZ x1)), (2, .int (iZ x2))]) hx hb dX11_nearest_59 hl (by decide) rfl (fun ls hl => ?_)
            refine lv_iload hx hb dX11_nearest_61 (lv_at hl 1 rfl) ?_
            refine lv_iload_n hx hb dX11_nearest_63 rfl (lv_at hl 5 rfl) ?_
            refine lv_icmp_eq (tgt := 86) hx hb dX11_nearest_64 (by decide) (fun c_14 => ?_) (fun c_14 => ?_)
            ·
              have c_14 := (zeq (x := iZ v5_29) (y := iZ x1) rfl rfl ⟨by omega, by omega⟩ ⟨by omega, by omega⟩).mp c_14
              refine lv_iinc (v := iZ (v5_29 + 1)) (lv' := [(5, .int (iZ (v5_29 + 1))), (6, .int (iZ (lt f x1 x2 v5_29 x2))), (4, .int (iZ v4_29)), (3, .int (iZ v3_29)), (0, .ref hx1), (1, .int (iZ x1)), (2, .int (iZ x2))]) hx hb dX11_nearest_86 hl (k := 1) rfl (iZ_add v5_29 1) (by decide) rfl (fun ls hl => ?_)
              refine lv_goto (tgt := 29) hx hb dX11_nearest_89 (by decide) ?_
              exact ih29  v4_29 v3_29 (v5_29 + 1) _ _ _ (by omega) (show (0 ≤ (v5_29 + 1) ∧ (v5_29 + 1) ≤ (n) + 1) from ⟨by omega, by omega⟩) (show -1 ≤ v3_29 ∧ v3_29 < n from (by omega)) (show 0 ≤ v4_29 ∧ v4_29 ≤ 20 from (by omega)) (hP.sub [0, 1, 2, 3, 4] rfl) (hD.sub [0, 1, 2, 3, 4] rfl rfl) hS (lv_sub hl [0, 2, 3, 4, 5, 6] rfl)
            ·
              have c_14 := mt (zeq (x := iZ v5_29) (y := iZ x1) rfl rfl ⟨by omega, by omega⟩ ⟨by omega, by omega⟩).mpr c_14
              refine lv_iload_n hx hb dX11_nearest_67 rfl (lv_at hl 3 rfl) ?_
              refine lv_iconst (v := iZ (-1)) hx hb dX11_nearest_68 (by decide) ?_
              refine lv_icmp_eq (tgt := 79) hx hb dX11_nearest_69 (by decide) (fun c_15 => ?_) (fun c_15 => ?_)
              ·
                have c_15 := (zeq (x := iZ v3_29) (y := iZ (-1)) rfl rfl ⟨by omega, by omega⟩ ⟨by omega, by omega⟩).mp c_15
                refine lv_iload hx hb dX11_nearest_79 (lv_at hl 0 rfl) ?_
                refine lv_istore (lv' := [(4, .int (iZ (lt f x1 x2 v5_29 x2))), (6, .int (iZ (lt f x1 x2 v5_29 x2))), (5, .int (iZ v5_29)), (3, .int (iZ v3_29)), (0, .ref hx1), (1, .int (iZ x1)), (2, .int (iZ x2))]) hx hb dX11_nearest_81 hl (by decide) rfl (fun ls hl => ?_)
                refine lv_iload hx hb dX11_nearest_83 (lv_at hl 2 rfl) ?_
                refine lv_istore_n (lv' := [(3, .int (iZ v5_29)), (4, .int (iZ (lt f x1 x2 v5_29 x2))), (6, .int (iZ (lt f x1 x2 v5_29 x2))), (5, .int (iZ v5_29)), (0, .ref hx1), (1, .int (iZ x1)), (2, .int (iZ x2))]) hx hb dX11_nearest_85 rfl hl (by decide) rfl (fun ls hl => ?_)
                refine lv_iinc (v := iZ (v5_29 + 1)) (lv' := [(5, .int (iZ (v5_29 + 1))), (3, .int (iZ v5_29)), (4, .int (iZ (lt f x1 x2 v5_29 x2))), (6, .int (iZ (lt f x1 x2 v5_29 x2))), (0, .ref hx1), (1, .int (iZ x1)), (2, .int (iZ x2))]) hx hb dX11_nearest_86 hl (k := 3) rfl (iZ_add v5_29 1) (by decide) rfl (fun ls hl => ?_)
                refine lv_goto (tgt := 29) hx hb dX11_nearest_89 (by decide) ?_
                exact ih29  (lt f x1 x2 v5_29 x2) v5_29 (v5_29 + 1) _ _ _ (by omega) (show (0 ≤ (v5_29 + 1) ∧ (v5_29 + 1) ≤ (n) + 1) from ⟨by omega, by omega⟩) (show -1 ≤ v5_29 ∧ v5_29 < n from (by omega)) (show 0 ≤ (lt f x1 x2 v5_29 x2) ∧ (lt f x1 x2 v5_29 x2) ≤ 20 from (by omega)) (hP.sub [0, 1, 2, 3, 4] rfl) (hD.sub [0, 1, 2, 3, 4] rfl rfl) hS (lv_sub hl [0, 2, 1, 4, 5, 6] rfl)
              ·
                have c_15 := mt (zeq (x := iZ v3_29) (y := iZ (-1)) rfl rfl ⟨by omega, by omega⟩ ⟨by omega, by omega⟩).mpr c_15
                refine lv_iload hx hb dX11_nearest_72 (lv_at hl 0 rfl) ?_
                refine lv_iload hx hb dX11_nearest_74 (lv_at hl 2 rfl) ?_
                refine lv_icmp_ge (tgt := 86) hx hb dX11_nearest_76 (by decide) (fun c_16 => ?_) (fun c_16 => ?_)
                ·
                  have c_16 := (zle (x := iZ v4_29) (y := iZ (lt f x1 x2 v5_29 x2)) rfl rfl ⟨by omega, by omega⟩ ⟨by omega, by omega⟩).mp c_16
                  refine lv_iinc (v := iZ (v5_29 + 1)) (lv' := [(5, .int (iZ (v5_29 + 1))), (6, .int (iZ (lt f x1 x2 v5_29 x2))), (4, .int (iZ v4_29)), (3, .int (iZ v3_29)), (0, .ref hx1), (1, .int (iZ x1)), (2, .int (iZ x2))]) hx hb dX11_nearest_86 hl (k := 1) rfl (iZ_add v5_29 1) (by decide) rfl (fun ls hl => ?_)
                  refine lv_goto (tgt := 29) hx hb dX11_nearest_89 (by decide) ?_
                  exact ih29  v4_29 v3_29 (v5_29 + 1) _ _ _ (by omega) (show (0 ≤ (v5_29 + 1) ∧ (v5_29 + 1) ≤ (n) + 1) from ⟨by omega, by omega⟩) (show -1 ≤ v3_29 ∧ v3_29 < n from (by omega)) (show 0 ≤ v4_29 ∧ v4_29 ≤ 20 from (by omega)) (hP.sub [0, 1, 2, 3, 4] rfl) (hD.sub [0, 1, 2, 3, 4] rfl rfl) hS (lv_sub hl [0, 2, 3, 4, 5, 6] rfl)
                ·
                  have c_16 := mt (zle (x := iZ v4_29) (y := iZ (lt f x1 x2 v5_29 x2)) rfl rfl ⟨by omega, by omega⟩ ⟨by omega, by omega⟩).mpr c_16
                  refine lv_iload hx hb dX11_nearest_79 (lv_at hl 0 rfl) ?_
                  refine lv_istore (lv' := [(4, .int (iZ (lt f x1 x2 v5_29 x2))), (6, .int (iZ (lt f x1 x2 v5_29 x2))), (5, .int (iZ v5_29)), (3, .int (iZ v3_29)), (0, .ref hx1), (1, .int (iZ x1)), (2, .int (iZ x2))]) hx hb dX11_nearest_81 hl (by decide) rfl (fun ls hl => ?_)
                  refine lv_iload hx hb dX11_nearest_83 (lv_at hl 2 rfl) ?_
                  refine lv_istore_n (lv' := [(3, .int (iZ v5_29)), (4, .int (iZ (lt f x1 x2 v5_29 x2))), (6, .int (iZ (lt f x1 x2 v5_29 x2))), (5, .int (iZ v5_29)), (0, .ref hx1), (1, .int (iZ x1)), (2, .int (iZ x2))]) hx hb dX11_nearest_85 rfl hl (by decide) rfl (fun ls hl => ?_)
                  refine lv_iinc (v := iZ (v5_29 + 1)) (lv' := [(5, .int (iZ (v5_29 + 1))), (3, .int (iZ v5_29)), (4, .int (iZ (lt f x1 x2 v5_29 x2))), (6, .int (iZ (lt f x1 x2 v5_29 x2))), (0, .ref hx1), (1, .int (iZ x1)), (2, .int (iZ x2))]) hx hb dX11_nearest_86 hl (k := 3) rfl (iZ_add v5_29 1) (by decide) rfl (fun ls hl => ?_)
                  refine lv_goto (tgt := 29) hx hb dX11_nearest_89 (by decide) ?_
                  exact ih29  (lt f x1 x2 v5_29 x2) v5_29 (v5_29 + 1) _ _ _ (by omega) (show (0 ≤ (v5_29 + 1) ∧ (v5_29 + 1) ≤ (n) + 1) from ⟨by omega, by omega⟩) (show -1 ≤ v5_29 ∧ v5_29 < n from (by omega)) (show 0 ≤ (lt f x1 x2 v5_29 x2) ∧ (lt f x1 x2 v5_29 x2) ≤ 20 from (by omega)) (hP.sub [0, 1, 2, 3, 4] rfl) (hD.sub [0, 1, 2, 3, 4] rfl rfl) hS (lv_sub hl [0, 2, 1, 4, 5, 6] rfl)
      exact HL29 9 0 (-1) 0 _ _ _ (by omega) (show (0 ≤ 0 ∧ 0 ≤ (n) + 1) from ⟨by omega, by omega⟩) (show -1 ≤ (-1) ∧ (-1) < n from (by omega)) (show 0 ≤ 0 ∧ 0 ≤ 20 from (by omega)) (hP.sub [0, 1, 2, 3, 4] rfl) (hD.sub [0, 1, 2, 3, 4] rfl rfl) hS (lv_sub hl [0, 1, 2, 3, 4, 5] rfl)
    ·
      subst qz_3
      refine lv_if_ne (tgt := 21) hx hb dX11_nearest_12 (by decide) (fun c => absurd (by decide) c) (fun _ => ?_)
      refine lv_aload_n hx hb dX11_nearest_15 rfl (lv_at hl 0 rfl) ?_
      refine lv_iconst (v := iZ 1) hx hb dX11_nearest_16 (by decide) ?_
      refine CWV (As := [.int (iZ 1)]) (rest := []) (wc := [(hx1, .inr (11, [.ref ta, .ref hw1, .ref hw12, .ref ka, .ref hr1, .ref hq, .ref hv, .ref h, .ref hn1, .ref hL, .ref li, .int (iZ ev), .int (iZ mk), .int (iZ ou), .long up, .long lo]))]) (wr := [(hw1, .inr (8, [.ref hs, .ref hc, .ref hy])), (hs, .inr (5, fs)), (hf, .inl (k 1, 36, .inl f)), (hg, .inl (k 1, 32, .inl g))]) hx hb hml hown hts hKK hP hD hS hA (k_refuse l D k hx1 ta hw1 hw12 ka hr1 hq hv h hn1 hL li ev mk ou up lo 1) ci_X11_refuse qm_X11_126 ⟨Nat.le_of_ble_eq_true rfl, Nat.le_of_ble_eq_true rfl⟩ ⟨Nat.le_of_ble_eq_true rfl, Nat.le_of_ble_eq_true rfl⟩ [0] [1, 2, 3, 4] rfl rfl rfl rfl rfl (by decide) 0 rfl rfl rfl hl.1 rfl (Nat.le_of_ble_eq_true rfl) dX11_nearest_17 (fun u_18 H locs hφ hP hD hS => ?_)
      obtain ⟨I_19, L_20, F_21, G_22⟩ := u_18
      refine W.eq (g2 := F0 m 20 ls [.int (iZ (-1))]) rfl ?_
      exact EWi hx hb hr hlocks hS (fun i => [(-1), 1].getD i 0, fun i => [0].getD i 0, fun i => [].getD i (fun _ => 0), fun i => [].getD i (fun _ => 0)) rfl trivial (hP.sub [4, 0, 1, 2, 3] rfl) (hD.sub [4, 0, 1, 2, 3] rfl rfl) dX11_nearest_20
  ·
    subst qz_1
    refine lv_if_eq (tgt := 15) hx hb dX11_nearest_5 (by decide) (fun _ => ?_) (fun c => absurd (by decide) c)
    refine lv_aload_n hx hb dX11_nearest_15 rfl (lv_at hl 0 rfl) ?_
    refine lv_iconst (v := iZ 1) hx hb dX11_nearest_16 (by decide) ?_
    refine CWV (As := [.int (iZ 1)]) (rest := []) (wc := [(hx1, .inr (11, [.ref ta, .ref hw1, .ref hw12, .ref ka, .ref hr1, .ref hq, .ref hv, .ref h, .ref hn1, .ref hL, .ref li, .int (iZ ev), .int (iZ mk), .int (iZ ou), .long up, .long lo]))]) (wr := [(hw1, .inr (8, [.ref hs, .ref hc, .ref hy])), (hs, .inr (5, fs)), (hf, .inl (k 1, 36, .inl f)), (hg, .inl (k 1, 32, .inl g))]) hx hb hml hown hts hKK hP hD hS hA (k_refuse l D k hx1 ta hw1 hw12 ka hr1 hq hv h hn1 hL li ev mk ou up lo 1) ci_X11_refuse qm_X11_126 ⟨Nat.le_of_ble_eq_true rfl, Nat.le_of_ble_eq_true rfl⟩ ⟨Nat.le_of_ble_eq_true rfl, Nat.le_of_ble_eq_true rfl⟩ [0] [1, 2, 3, 4] rfl rfl rfl rfl rfl (by decide) 0 rfl rfl rfl hl.1 rfl (Nat.le_of_ble_eq_true rfl) dX11_nearest_17 (fun u_25 H locs hφ hP hD hS => ?_)
    obtain ⟨I_26, L_27, F_28, G_29⟩ := u_25
    refine W.eq (g2 := F0 m 20 ls [.int (iZ (-1))]) rfl ?_
    exact EWi hx hb hr hlocks hS (fun i => [(-1), 1].getD i 0, fun i => [0].getD i 0, fun i => [].getD i (fun _ => 0), fun i => [].getD i (fun _ => 0)) rfl trivial (hP.sub [4, 0, 1, 2, 3] rfl) (hD.sub [4, 0, 1, 2, 3] rfl rfl) dX11_nearest_20
set_option maxHeartbeats 4000000 in
set_option maxRecDepth 100000 in
theorem p_meetings (l : Launch) (D : va_G) (k : Nat → ClassId) (hx1 : Nat) (ta : Nat) (hw1 : Nat) (hw12 : Nat) (ka : Nat) (hr1 : Nat) (hq : Nat) (hv : Nat) (h : Nat) (hn1 : Nat) (hL : Nat) (li : Nat) (ev : Int) (mk : Int) (ou : Int) (up : Int64) (lo : Int64) (fs : List Value) (hs : Nat) (hf : Nat) (hg : Nat) (hc : Nat) (hy : Nat) (n : Int) (ni : Int) (lw : Int) (f : Nat → Int32) (g : Nat → Int32) (x1 : Int) (x2 : Int) (x3 : Int) (x4 : Int) (f1 : fs[1]? = some (.ref hf)) (f2 : fs[2]? = some (.ref hg)) (f3 : fs[3]? = some (.int (iZ n))) (f4 : fs[4]? = some (.int (iZ ni))) (f5 : fs[5]? = some (.int (iZ lw))) (hn : n ≤ 6) (hx0 : FXI f n) (hni : 0 ≤ ni ∧ ni ≤ 8) (hn0 : 0 ≤ n) (hlw : -2147483648 ≤ lw ∧ lw < 2147483648) (h9x1 : -2147483648 ≤ x1 ∧ x1 < 2147483648) (h9x2 : -2147483648 ≤ x2 ∧ x2 < 2147483648) (h9x3 : -2147483648 ≤ x3 ∧ x3 < 2147483648) (h9x4 : -2147483648 ≤ x4 ∧ x4 < 2147483648) : WD (σ := ((Nat → Int) × (Nat → Int64) × (Nat → Nat → Int32) × (Nat → Nat → Int64))) l yX11_meetings cX11_meetings 7 (some .int) 3 0 0 D k [.ref hx1, .int (iZ x1), .int (iZ x2), .int (iZ x3), .int (iZ x4)] [(hx1, .inr (11, [.ref ta, .ref hw1, .ref hw12, .ref ka, .ref hr1, .ref hq, .ref hv, .ref h, .ref hn1, .ref hL, .ref li, .int (iZ ev), .int (iZ mk), .int (iZ ou), .long up, .long lo])), (hw1, .inr (8, [.ref hs, .ref hc, .ref hy])), (hs, .inr (5, fs)), (hf, .inl (k 1, 36, .inl f)), (hg, .inl (k 1, 32, .inl g))] (fun u => some (.int (iZ (u.1 0)))) (fun _ => True) (fun u => [(hx1, .inr (11, [.ref ta, .ref hw1, .ref hw12, .ref ka, .ref hr1, .ref hq, .ref hv, .ref h, .ref hn1, .ref hL, .ref li, .int (iZ ev), .int (iZ mk), .int (iZ (u.1 1)), .long up, .long lo])), (hw1, .inr (8, [.ref hs, .ref hc, .ref hy])), (hs, .inr (5, fs)), (hf, .inl (k 1, 36, .inl f)), (hg, .inl (k 1, 32, .inl g))]) := by
  refine MW (by decide) (Nat.le_of_ble_eq_true rfl) (fun p e s m below meth c ls A hx hb hml hr hlocks hin hts hown hKK hP hD hS hA hl => ?_)
  have hK := hKK.1
  have hl : lv_has ls 7 [(0, .ref hx1), (1, .int (iZ x1)), (2, .int (iZ x2)), (3, .int (iZ x3)), (4, .int (iZ x4))] := hl
  refine lv_aload_n hx hb dX11_meetings_0 rfl (lv_at hl 0 rfl) ?_
  refine lv_iload_n hx hb dX11_meetings_1 rfl (lv_at hl 1 rfl) ?_
  refine lv_iload_n hx hb dX11_meetings_2 rfl (lv_at hl 2 rfl) ?_
  refine CPV (As := [.int (iZ x1), .int (iZ x2)]) (rest := []) hx hb hml hown hts hKK (hP.sub (ws' := [(hx1, .inr (11, [.ref ta, .ref hw1, .ref hw12, .ref ka, .ref hr1, .ref hq, .ref hv, .ref h, .ref hn1, .ref hL, .ref li, .int (iZ ev), .int (iZ mk), .int (iZ ou), .long up, .long lo])), (hw1, .inr (8, [.ref hs, .ref hc, .ref hy])), (hs, .inr (5, fs))]) [0, 1, 2] rfl) (k_isCouple l D k hx1 ta hw1 hw12 ka hr1 hq hv h hn1 hL li ev mk ou up lo fs hs hc hy n x1 x2 f3 ⟨by omega, by omega⟩ ⟨by omega, by omega⟩ ⟨by omega, by omega⟩) ci_X11_isCouple qm_X11_237 ⟨Nat.le_of_ble_eq_true rfl, Nat.le_of_ble_eq_true rfl⟩ ⟨Nat.le_of_ble_eq_true rfl, Nat.le_of_ble_eq_true rfl⟩ 0 rfl rfl rfl hl.1 rfl (Nat.le_of_ble_eq_true rfl) dX11_meetings_3 (fun z_1 hz_1 => ?_)
  rcases hz_1 with ⟨qz_1, hz_1⟩ | ⟨qz_1, hz_1⟩
  ·
    subst qz_1
    refine lv_if_eq (tgt := 30) hx hb dX11_meetings_6 (by decide) (fun c => absurd c (by decide)) (fun _ => ?_)
    refine lv_iload_n hx hb dX11_meetings_9 rfl (lv_at hl 3 rfl) ?_
    refine CPS (As := [.int (iZ x3)]) (rest := []) hx hb hml hown hts hKK (hP.sub (ws' := []) [] rfl) (k_isWeek l D k x3 ⟨by omega, by omega⟩) ci_X11_isWeek qm_X11_240 ⟨Nat.le_of_ble_eq_true rfl, Nat.le_of_ble_eq_true rfl⟩ ⟨Nat.le_of_ble_eq_true rfl, Nat.le_of_ble_eq_true rfl⟩ rfl hl.1 rfl (Nat.le_of_ble_eq_true rfl) dX11_meetings_10 (fun z_3 hz_3 => ?_)
    rcases hz_3 with ⟨qz_3, hz_3⟩ | ⟨qz_3, hz_3⟩
    ·
      subst qz_3
      refine lv_if_eq (tgt := 30) hx hb dX11_meetings_13 (by decide) (fun c => absurd c (by decide)) (fun _ => ?_)
      refine lv_iload hx hb dX11_meetings_16 (lv_at hl 4 rfl) ?_
      refine CPS (As := [.int (iZ x4)]) (rest := []) hx hb hml hown hts hKK (hP.sub (ws' := []) [] rfl) (k_isWeek l D k x4 ⟨by omega, by omega⟩) ci_X11_isWeek qm_X11_240 ⟨Nat.le_of_ble_eq_true rfl, Nat.le_of_ble_eq_true rfl⟩ ⟨Nat.le_of_ble_eq_true rfl, Nat.le_of_ble_eq_true rfl⟩ rfl hl.1 rfl (Nat.le_of_ble_eq_true rfl) dX11_meetings_18 (fun z_5 hz_5 => ?_)
      rcases hz_5 with ⟨qz_5, hz_5⟩ | ⟨qz_5, hz_5⟩
      ·
        subst qz_5
        refine lv_if_eq (tgt := 30) hx hb dX11_meetings_21 (by decide) (fun c => absurd c (by decide)) (fun _ => ?_)
        refine lv_iload hx hb dX11_meetings_24 (lv_at hl 4 rfl) ?_
        refine lv_iload_n hx hb dX11_meetings_26 rfl (lv_at hl 3 rfl) ?_
        refine lv_icmp_ge (tgt := 36) hx hb dX11_meetings_27 (by decide) (fun c_7 => ?_) (fun c_7 => ?_)
        ·
          have c_7 := (zle (x := iZ x3) (y := iZ x4) rfl rfl ⟨by omega, by omega⟩ ⟨by omega, by omega⟩).mp c_7
          refine lv_iconst (v := iZ 0) hx hb dX11_meetings_36 (by decide) ?_
          refine lv_istore (lv' := [(5, .int (iZ 0)), (0, .ref hx1), (1, .int (iZ x1)), (2, .int (iZ x2)), (3, .int (iZ x3)), (4, .int (iZ x4))]) hx hb dX11_meetings_37 hl (by decide) rfl (fun ls hl => ?_)
          refine lv_iload_n hx hb dX11_meetings_39 rfl (lv_at hl 4 rfl) ?_
          refine lv_istore (lv' := [(6, .int (iZ x3)), (5, .int (iZ 0)), (0, .ref hx1), (1, .int (iZ x1)), (2, .int (iZ x2)), (3, .int (iZ x3)), (4, .int (iZ x4))]) hx hb dX11_meetings_40 hl (by decide) rfl (fun ls hl => ?_)
          have HL42 : ∀ (fu : Nat) (v5_42 : Int) (v6_42 : Int) (H : Heap) (locs : List Loc) (ls : Array Slot), ((x4) + 2 - v6_42) < (fu : Int) → ((x3 ≤ v6_42 ∧ v6_42 ≤ (x4) + 1)) → va_P D vwCl [(hx1, .inr (11, [.ref ta, .ref hw1, .ref hw12, .ref ka, .ref hr1, .ref hq, .ref hv, .ref h, .ref hn1, .ref hL, .ref li, .int (iZ ev), .int (iZ mk), .int (iZ ou), .long up, .long lo])), (hw1, .inr (8, [.ref hs, .ref hc, .ref hy])), (hs, .inr (5, fs)), (hf, .inl (k 1, 36, .inl f)), (hg, .inl (k 1, 32, .inl g))] H → va_D A [(hx1, .inr (11, [.ref ta, .ref hw1, .ref hw12, .ref ka, .ref hr1, .ref hq, .ref hv, .ref h, .ref hn1, .ref hL, .ref li, .int (iZ ev), .int (iZ mk), .int (iZ ou), .long up, .long lo])), (hw1, .inr (8, [.ref hs, .ref hc, .ref hy])), (hs, .inr (5, fs)), (hf, .inl (k 1, 36, .inl f)), (hg, .inl (k 1, 32, .inl g))] → va_S A s.heap H locs → lv_has ls 7 [(6, .int (iZ v6_42)), (5, .int (iZ v5_42)), (0, .ref hx1), (1, .int (iZ x1)), (2, .int (iZ x2)), (3, .int (iZ x3)), (4, .int (iZ x4))] → W p l e (rj 3 0 0) s m [.ref hx1, .int (iZ x1), .int (iZ x2), .int (iZ x3), .int (iZ x4)].toArray below meth c H locs 0 0 (MQ below (QW (σ := ((Nat → Int) × (Nat → Int64) × (Nat → Nat → Int32) × (Nat → Nat → Int64))) (fun u => some (.int (iZ (u.1 0)))) (fun _ => True) (fun u => [(hx1, .inr (11, [.ref ta, .ref hw1, .ref hw12, .ref ka, .ref hr1, .ref hq, .ref hv, .ref h, .ref hn1, .ref hL, .ref li, .int (iZ ev), .int (iZ mk), .int (iZ (u.1 1)), .long up, .long lo])), (hw1, .inr (8, [.ref hs, .ref hc, .ref hy])), (hs, .inr (5, fs)), (hf, .inl (k 1, 36, .inl f)), (hg, .inl (k 1, 32, .inl g))]) D A) [.ref hx1, .int (iZ x1), .int (iZ x2), .int (iZ x3), .int (iZ x4)].toArray s 0 0 A) (F0 m 42 ls []) := by
            intro fu
            induction fu with
            | zero => intro v5_42 v6_42 H locs ls hμ42 hi42 hP hD hS hl; exact absurd hμ42 (by omega)
            | succ fu ih42 =>
              intro v5_42 v6_42 H locs ls hμ42 hi42 hP hD hS hl
              refine lv_iload hx hb dX11_meetings_42 (lv_at hl 0 rfl) ?_
              refine lv_iload hx hb dX11_meetings_44 (lv_at hl 6 rfl) ?_
              refine lv_icmp_gt (tgt := 87) hx hb dX11_meetings_46 (by decide) (fun c_8 => ?_) (fun c_8 => ?_)
              ·
                have c_8 := (zlt (x := iZ x4) (y := iZ v6_42) rfl rfl ⟨by omega, by omega⟩ ⟨by omega, by omega⟩).mp c_8
                refine lv_aload_n hx hb dX11_meetings_87 rfl (lv_at hl 2 rfl) ?_
                refine lv_iload hx hb dX11_meetings_88 (lv_at hl 1 rfl) ?_
                refine CWV (As := [.int (iZ v5_42)]) (rest := []) (wc := [(hx1, .inr (11, [.ref ta, .ref hw1, .ref hw12, .ref ka, .ref hr1, .ref hq, .ref hv, .ref h, .ref hn1, .ref hL, .ref li, .int (iZ ev), .int (iZ mk), .int (iZ ou), .long up, .long lo]))]) (wr := [(hw1, .inr (8, [.ref hs, .ref hc, .ref hy])), (hs, .inr (5, fs)), (hf, .inl (k 1, 36, .inl f)), (hg, .inl (k 1, 32, .inl g))]) hx hb hml hown hts hKK hP hD hS hA (k_answer l D k hx1 ta hw1 hw12 ka hr1 hq hv h hn1 hL li ev mk ou up lo v5_42) ci_X11_answer qm_X11_174 ⟨Nat.le_of_ble_eq_true rfl, Nat.le_of_ble_eq_true rfl⟩ ⟨Nat.le_of_ble_eq_true rfl, Nat.le_of_ble_eq_true rfl⟩ [0] [1, 2, 3, 4] rfl rfl rfl rfl rfl (by decide) 0 rfl rfl rfl hl.1 rfl (Nat.le_of_ble_eq_true rfl) dX11_meetings_90 (fun u_9 H locs hφ hP hD hS => ?_)
                obtain ⟨I_10, L_11, F_12, G_13⟩ := u_9
                refine W.eq (g2 := F0 m 93 ls [.int (iZ v5_42)]) rfl ?_
                exact EWi hx hb hr hlocks hS (fun i => [v5_42, 0].getD i 0, fun i => [0].getD i 0, fun i => [].getD i (fun _ => 0), fun i => [].getD i (fun _ => 0)) rfl trivial (hP.sub [4, 0, 1, 2, 3] rfl) (hD.sub [4, 0, 1, 2, 3] rfl rfl) dX11_meetings_93
              ·
                have c_8 := mt (zlt (x := iZ x4) (y := iZ v6_42) rfl rfl ⟨by omega, by omega⟩ ⟨by omega, by omega⟩).mpr c_8
                refine lv_aload_n hx hb dX11_meetings_49 rfl (lv_at hl 2 rfl) ?_
                refine va_get (D := D) (ci := 11) (v := .ref hw1) (C := RX11) (T := TX11) (N := 16) hx hb hts iX11 hown hK hP 0 rfl rfl 1 (by decide) (hts _ qf_X11_18) (fun _ h => h) rfl dX11_meetings_50 ?_
                refine va_get (D := D) (ci := 8) (v := .ref hs) (C := RX8) (T := TX8) (N := 3) hx hb hts iX8 hown hK hP 1 rfl rfl 0 (by decide) (hts _ qf_X11_54) (fun _ h => h) rfl dX11_meetings_53 ?_
                refine lv_iload_n hx hb dX11_meetings_56 rfl (lv_at hl 3 rfl) ?_
                refine lv_iload hx hb dX11_meetings_57 (lv_at hl 0 rfl) ?_
                refine CRV (As := [.int (iZ x1), .int (iZ v6_42)]) (rest := []) hx hb hml hown hts hKK (hP.sub (ws' := [(hs, .inr (5, fs)), (hf, .inl (k 1, 36, .inl f))]) [2, 3] rfl) (k_heading l D k hs hf fs f1 f n hn hx0 x1 v6_42 ⟨by omega, by omega⟩ ⟨by omega, by omega⟩) ci_X5_heading qm_X11_230 ⟨Nat.le_of_ble_eq_true rfl, Nat.le_of_ble_eq_true rfl⟩ ⟨Nat.le_of_ble_eq_true rfl, Nat.le_of_ble_eq_true rfl⟩ 0 rfl rfl rfl hl.1 rfl (Nat.le_of_ble_eq_true rfl) dX11_meetings_59 ?_
                have hh_h_15 := hd_rg f x1 v6_42
                refine lv_aload_n hx hb dX11_meetings_62 rfl (lv_at hl 2 rfl) ?_
                refine va_get (D := D) (ci := 11) (v := .ref hw1) (C := RX11) (T := TX11) (N := 16) hx hb hts iX11 hown hK hP 0 rfl rfl 1 (by decide) (hts _ qf_X11_18) (fun _ h => h) rfl dX11_meetings_63 ?_
                refine va_get (D := D) (ci := 8) (v := .ref hs) (C := RX8) (T := TX8) (N := 3) hx hb hts iX8 hown hK hP 1 rfl rfl 0 (by decide) (hts _ qf_X11_54) (fun _ h => h) rfl dX11_meetings_66 ?_
                refine lv_iload_n hx hb dX11_meetings_69 rfl (lv_at hl 4 rfl) ?_
                refine lv_iload hx hb dX11_meetings_70 (lv_at hl 0 rfl) ?_
                refine CRV (As := [.int (iZ x2), .int (iZ v6_42)]) (rest := [.int (iZ (hd f x1 v6_42))]) hx hb hml hown hts hKK (hP.sub (ws' := [(hs, .inr (5, fs)), (hf, .inl (k 1, 36, .inl f))]) [2, 3] rfl) (k_heading l D k hs hf fs f1 f n hn hx0 x2 v6_42 ⟨by omega, by omega⟩ ⟨by omega, by omega⟩) ci_X5_heading qm_X11_230 ⟨Nat.le_of_ble_eq_true rfl, Nat.le_of_ble_eq_true rfl⟩ ⟨Nat.le_of_ble_eq_true rfl, Nat.le_of_ble_eq_true rfl⟩ 0 rfl rfl rfl hl.1 rfl (Nat.le_of_ble_eq_true rfl) dX11_meetings_72 ?_
                have hh_h_16 := hd_rg f x2 v6_42
                refine lv_icmp_ne (tgt := 81) hx hb dX11_meetings_75 (by decide) (fun c_17 => ?_) (fun c_17 => ?_)
                ·
                  have c_17 := mt (zeq (x := iZ (hd f x1 v6_42)) (y := iZ (hd f x2 v6_42)) rfl rfl ⟨by omega, by omega⟩ ⟨by omega, by omega⟩).mpr c_17
                  refine lv_iinc (v := iZ (v6_42 + 1)) (lv' := [(6, .int (iZ (v6_42 + 1))), (5, .int (iZ v5_42)), (0, .ref hx1), (1, .int (iZ x1)), (2, .int (iZ x2)), (3, .int (iZ x3)), (4, .int (iZ x4))]) hx hb dX11_meetings_81 hl (k := 0) rfl (iZ_add v6_42 1) (by decide) rfl (fun ls hl => ?_)
                  refine lv_goto (tgt := 42) hx hb dX11_meetings_84 (by decide) ?_
                  exact ih42  v5_42 (v6_42 + 1) _ _ _ (by omega) (show (x3 ≤ (v6_42 + 1) ∧ (v6_42 + 1) ≤ (x4) + 1) from ⟨by omega, by omega⟩) (hP.sub [0, 1, 2, 3, 4] rfl) (hD.sub [0, 1, 2, 3, 4] rfl rfl) hS (lv_sub hl [0, 1, 2, 3, 4, 5, 6] rfl)
                ·
                  have c_17 := (zeq (x := iZ (hd f x1 v6_42)) (y := iZ (hd f x2 v6_42)) rfl rfl ⟨by omega, by omega⟩ ⟨by omega, by omega⟩).mp c_17
                  refine lv_iinc (v := iZ (v5_42 + 1)) (lv' := [(5, .int (iZ (v5_42 + 1))), (6, .int (iZ v6_42)), (0, .ref hx1), (1, .int (iZ x1)), (2, .int (iZ x2)), (3, .int (iZ x3)), (4, .int (iZ x4))]) hx hb dX11_meetings_78 hl (k := 1) rfl (iZ_add v5_42 1) (by decide) rfl (fun ls hl => ?_)
                  refine lv_iinc (v := iZ (v6_42 + 1)) (lv' := [(6, .int (iZ (v6_42 + 1))), (5, .int (iZ (v5_42 + 1))), (0, .ref hx1), (1, .int (iZ x1)), (2, .int (iZ x2)), (3, .int (iZ x3)), (4, .int (iZ x4))]) hx hb dX11_meetings_81 hl (k := 1) rfl (iZ_add v6_42 1) (by decide) rfl (fun ls hl => ?_)
                  refine lv_goto (tgt := 42) hx hb dX11_meetings_84 (by decide) ?_
                  exact ih42  (v5_42 + 1) (v6_42 + 1) _ _ _ (by omega) (show (x3 ≤ (v6_42 + 1) ∧ (v6_42 + 1) ≤ (x4) + 1) from ⟨by omega, by omega⟩) (hP.sub [0, 1, 2, 3, 4] rfl) (hD.sub [0, 1, 2, 3, 4] rfl rfl) hS (lv_sub hl [0, 1, 2, 3, 4, 5, 6] rfl)
          exact HL42 502 0 x3 _ _ _ (by omega) (show (x3 ≤ x3 ∧ x3 ≤ (x4) + 1) from ⟨by omega, by omega⟩) (hP.sub [0, 1, 2, 3, 4] rfl) (hD.sub [0, 1, 2, 3, 4] rfl rfl) hS (lv_sub hl [0, 1, 2, 3, 4, 5, 6] rfl)
        ·
          have c_7 := mt (zle (x := iZ x3) (y := iZ x4) rfl rfl ⟨by omega, by omega⟩ ⟨by omega, by omega⟩).mpr c_7
          refine lv_aload_n hx hb dX11_meetings_30 rfl (lv_at hl 0 rfl) ?_
          refine lv_iconst (v := iZ 1) hx hb dX11_meetings_31 (by decide) ?_
          refine CWV (As := [.int (iZ 1)]) (rest := []) (wc := [(hx1, .inr (11, [.ref ta, .ref hw1, .ref hw12, .ref ka, .ref hr1, .ref hq, .ref hv, .ref h, .ref hn1, .ref hL, .ref li, .int (iZ ev), .int (iZ mk), .int (iZ ou), .long up, .long lo]))]) (wr := [(hw1, .inr (8, [.ref hs, .ref hc, .ref hy])), (hs, .inr (5, fs)), (hf, .inl (k 1, 36, .inl f)), (hg, .inl (k 1, 32, .inl g))]) hx hb hml hown hts hKK hP hD hS hA (k_refuse l D k hx1 ta hw1 hw12 ka hr1 hq hv h hn1 hL li ev mk ou up lo 1) ci_X11_refuse qm_X11_126 ⟨Nat.le_of_ble_eq_true rfl, Nat.le_of_ble_eq_true rfl⟩ ⟨Nat.le_of_ble_eq_true rfl, Nat.le_of_ble_eq_true rfl⟩ [0] [1, 2, 3, 4] rfl rfl rfl rfl rfl (by decide) 0 rfl rfl rfl hl.1 rfl (Nat.le_of_ble_eq_true rfl) dX11_meetings_32 (fun u_18 H locs hφ hP hD hS => ?_)
          obtain ⟨I_19, L_20, F_21, G_22⟩ := u_18
          refine W.eq (g2 := F0 m 35 ls [.int (iZ (-1))]) rfl ?_
          exact EWi hx hb hr hlocks hS (fun i => [(-1), 1].getD i 0, fun i => [0].getD i 0, fun i => [].getD i (fun _ => 0), fun i => [].getD i (fun _ => 0)) rfl trivial (hP.sub [4, 0, 1, 2, 3] rfl) (hD.sub [4, 0, 1, 2, 3] rfl rfl) dX11_meetings_35
      ·
        subst qz_5
        refine lv_if_eq (tgt := 30) hx hb dX11_meetings_21 (by decide) (fun _ => ?_) (fun c => absurd (by decide) c)
        refine lv_aload_n hx hb dX11_meetings_30 rfl (lv_at hl 0 rfl) ?_
        refine lv_iconst (v := iZ 1) hx hb dX11_meetings_31 (by decide) ?_
        refine CWV (As := [.int (iZ 1)]) (rest := []) (wc := [(hx1, .inr (11, [.ref ta, .ref hw1, .ref hw12, .ref ka, .ref hr1, .ref hq, .ref hv, .ref h, .ref hn1, .ref hL, .ref li, .int (iZ ev), .int (iZ mk), .int (iZ ou), .long up, .long lo]))]) (wr := [(hw1, .inr (8, [.ref hs, .ref hc, .ref hy])), (hs, .inr (5, fs)), (hf, .inl (k 1, 36, .inl f)), (hg, .inl (k 1, 32, .inl g))]) hx hb hml hown hts hKK hP hD hS hA (k_refuse l D k hx1 ta hw1 hw12 ka hr1 hq hv h hn1 hL li ev mk ou up lo 1) ci_X11_refuse qm_X11_126 ⟨Nat.le_of_ble_eq_true rfl, Nat.le_of_ble_eq_true rfl⟩ ⟨Nat.le_of_ble_eq_true rfl, Nat.le_of_ble_eq_true rfl⟩ [0] [1, 2, 3, 4] rfl rfl rfl rfl rfl (by decide) 0 rfl rfl rfl hl.1 rfl (Nat.le_of_ble_eq_true rfl) dX11_meetings_32 (fun u_25 H locs hφ hP hD hS => ?_)
        obtain ⟨I_26, L_27, F_28, G_29⟩ := u_25
        refine W.eq (g2 := F0 m 35 ls [.int (iZ (-1))]) rfl ?_
        exact EWi hx hb hr hlocks hS (fun i => [(-1), 1].getD i 0, fun i => [0].getD i 0, fun i => [].getD i (fun _ => 0), fun i => [].getD i (fun _ => 0)) rfl trivial (hP.sub [4, 0, 1, 2, 3] rfl) (hD.sub [4, 0, 1, 2, 3] rfl rfl) dX11_meetings_35
    ·
      subst qz_3
      refine lv_if_eq (tgt := 30) hx hb dX11_meetings_13 (by decide) (fun _ => ?_) (fun c => absurd (by decide) c)
      refine lv_aload_n hx hb dX11_meetings_30 rfl (lv_at hl 0 rfl) ?_
      refine lv_iconst (v := iZ 1) hx hb dX11_meetings_31 (by decide) ?_
      refine CWV (As := [.int (iZ 1)]) (rest := []) (wc := [(hx1, .inr (11, [.ref ta, .ref hw1, .ref hw12, .ref ka, .ref hr1, .ref hq, .ref hv, .ref h, .ref hn1, .ref hL, .ref li, .int (iZ ev), .int (iZ mk), .int (iZ ou), .long up, .long lo]))]) (wr := [(hw1, .inr (8, [.ref hs, .ref hc, .ref hy])), (hs, .inr (5, fs)), (hf, .inl (k 1, 36, .inl f)), (hg, .inl (k 1, 32, .inl g))]) hx hb hml hown hts hKK hP hD hS hA (k_refuse l D k hx1 ta hw1 hw12 ka hr1 hq hv h hn1 hL li ev mk ou up lo 1) ci_X11_refuse qm_X11_126 ⟨Nat.le_of_ble_eq_true rfl, Nat.le_of_ble_eq_true rfl⟩ ⟨Nat.le_of_ble_eq_true rfl, Nat.le_of_ble_eq_true rfl⟩ [0] [1, 2, 3, 4] rfl rfl rfl rfl rfl (by decide) 0 rfl rfl rfl hl.1 rfl (Nat.le_of_ble_eq_true rfl) dX11_meetings_32 (fun u_32 H locs hφ hP hD hS => ?_)
      obtain ⟨I_33, L_34, F_35, G_36⟩ := u_32
      refine W.eq (g2 := F0 m 35 ls [.int (iZ (-1))]) rfl ?_
      exact EWi hx hb hr hlocks hS (fun i => [(-1), 1].getD i 0, fun i => [0].getD i 0, fun i => [].getD i (fun _ => 0), fun i => [].getD i (fun _ => 0)) rfl trivial (hP.sub [4, 0, 1, 2, 3] rfl) (hD.sub [4, 0, 1, 2, 3] rfl rfl) dX11_meetings_35
  ·
    subst qz_1
    refine lv_if_eq (tgt := 30) hx hb dX11_meetings_6 (by decide) (fun _ => ?_) (fun c => absurd (by decide) c)
    refine lv_aload_n hx hb dX11_meetings_30 rfl (lv_at hl 0 rfl) ?_
    refine lv_iconst (v := iZ 1) hx hb dX11_meetings_31 (by decide) ?_
    refine CWV (As := [.int (iZ 1)]) (rest := []) (wc := [(hx1, .inr (11, [.ref ta, .ref hw1, .ref hw12, .ref ka, .ref hr1, .ref hq, .ref hv, .ref h, .ref hn1, .ref hL, .ref li, .int (iZ ev), .int (iZ mk), .int (iZ ou), .long up, .long lo]))]) (wr := [(hw1, .inr (8, [.ref hs, .ref hc, .ref hy])), (hs, .inr (5, fs)), (hf, .inl (k 1, 36, .inl f)), (hg, .inl (k 1, 32, .inl g))]) hx hb hml hown hts hKK hP hD hS hA (k_refuse l D k hx1 ta hw1 hw12 ka hr1 hq hv h hn1 hL li ev mk ou up lo 1) ci_X11_refuse qm_X11_126 ⟨Nat.le_of_ble_eq_true rfl, Nat.le_of_ble_eq_true rfl⟩ ⟨Nat.le_of_ble_eq_true rfl, Nat.le_of_ble_eq_true rfl⟩ [0] [1, 2, 3, 4] rfl rfl rfl rfl rfl (by decide) 0 rfl rfl rfl hl.1 rfl (Nat.le_of_ble_eq_true rfl) dX11_meetings_32 (fun u_39 H locs hφ hP hD hS => ?_)
    obtain ⟨I_40, L_41, F_42, G_43⟩ := u_39
    refine W.eq (g2 := F0 m 35 ls [.int (iZ (-1))]) rfl ?_
    exact EWi hx hb hr hlocks hS (fun i => [(-1), 1].getD i 0, fun i => [0].getD i 0, fun i => [].getD i (fun _ => 0), fun i => [].getD i (fun _ => 0)) rfl trivial (hP.sub [4, 0, 1, 2, 3] rfl) (hD.sub [4, 0, 1, 2, 3] rfl rfl) dX11_meetings_35
set_option maxHeartbeats 4000000 in
set_option maxRecDepth 100000 in
theorem p_span (l : Launch) (D : va_G) (k : Nat → ClassId) (hx1 : Nat) (ta : Nat) (hw1 : Nat) (hw12 : Nat) (ka : Nat) (hr1 : Nat) (hq : Nat) (hv : Nat) (h : Nat) (hn1 : Nat) (hL : Nat) (li : Nat) (ev : Int) (mk : Int) (ou : Int) (up : Int64) (lo : Int64) (fs : List Value) (hs : Nat) (hf : Nat) (hg : Nat) (hc : Nat) (hy : Nat) (n : Int) (ni : Int) (lw : Int) (f : Nat → Int32) (g : Nat → Int32) (x1 : Int) (f1 : fs[1]? = some (.ref hf)) (f2 : fs[2]? = some (.ref hg)) (f3 : fs[3]? = some (.int (iZ n))) (f4 : fs[4]? = some (.int (iZ ni))) (f5 : fs[5]? = some (.int (iZ lw))) (hn : n ≤ 6) (hx0 : FXI f n) (hni : 0 ≤ ni ∧ ni ≤ 8) (hn0 : 0 ≤ n) (hlw : -2147483648 ≤ lw ∧ lw < 2147483648) (h9x1 : -2147483648 ≤ x1 ∧ x1 < 2147483648) : WD (σ := ((Nat → Int) × (Nat → Int64) × (Nat → Nat → Int32) × (Nat → Nat → Int64))) l yX11_span cX11_span 5 (some .int) 2 0 0 D k [.ref hx1, .int (iZ x1)] [(hx1, .inr (11, [.ref ta, .ref hw1, .ref hw12, .ref ka, .ref hr1, .ref hq, .ref hv, .ref h, .ref hn1, .ref hL, .ref li, .int (iZ ev), .int (iZ mk), .int (iZ ou), .long up, .long lo])), (hw1, .inr (8, [.ref hs, .ref hc, .ref hy])), (hs, .inr (5, fs)), (hf, .inl (k 1, 36, .inl f)), (hg, .inl (k 1, 32, .inl g))] (fun u => some (.int (iZ (u.1 0)))) (fun _ => True) (fun u => [(hx1, .inr (11, [.ref ta, .ref hw1, .ref hw12, .ref ka, .ref hr1, .ref hq, .ref hv, .ref h, .ref hn1, .ref hL, .ref li, .int (iZ ev), .int (iZ mk), .int (iZ (u.1 1)), .long up, .long lo])), (hw1, .inr (8, [.ref hs, .ref hc, .ref hy])), (hs, .inr (5, fs)), (hf, .inl (k 1, 36, .inl f)), (hg, .inl (k 1, 32, .inl g))]) := by
  refine MW (by decide) (Nat.le_of_ble_eq_true rfl) (fun p e s m below meth c ls A hx hb hml hr hlocks hin hts hown hKK hP hD hS hA hl => ?_)
  have hK := hKK.1
  have hl : lv_has ls 5 [(0, .ref hx1), (1, .int (iZ x1))] := hl
  refine lv_iload_n hx hb dX11_span_0 rfl (lv_at hl 1 rfl) ?_
  refine lv_sipush (v := iZ 500) hx hb dX11_span_1 (by decide) ?_
  refine CPS (As := [.int (iZ x1), .int (iZ 500)]) (rest := []) hx hb hml hown hts hKK (hP.sub (ws' := []) [] rfl) (k_isWithin l D k x1 500 ⟨by omega, by omega⟩ ⟨by omega, by omega⟩) ci_X11_isWithin qm_X11_103 ⟨Nat.le_of_ble_eq_true rfl, Nat.le_of_ble_eq_true rfl⟩ ⟨Nat.le_of_ble_eq_true rfl, Nat.le_of_ble_eq_true rfl⟩ rfl hl.1 rfl (Nat.le_of_ble_eq_true rfl) dX11_span_4 (fun z_1 hz_1 => ?_)
  rcases hz_1 with ⟨qz_1, hz_1⟩ | ⟨qz_1, hz_1⟩
  ·
    subst qz_1
    refine lv_if_ne (tgt := 16) hx hb dX11_span_7 (by decide) (fun _ => ?_) (fun c => absurd c (by decide))
    refine lv_iconst (v := iZ 0) hx hb dX11_span_16 (by decide) ?_
    refine lv_istore_n (lv' := [(2, .int (iZ 0)), (0, .ref hx1), (1, .int (iZ x1))]) hx hb dX11_span_17 rfl hl (by decide) rfl (fun ls hl => ?_)
    refine lv_iconst (v := iZ 0) hx hb dX11_span_18 (by decide) ?_
    refine lv_istore_n (lv' := [(3, .int (iZ 0)), (2, .int (iZ 0)), (0, .ref hx1), (1, .int (iZ x1))]) hx hb dX11_span_19 rfl hl (by decide) rfl (fun ls hl => ?_)
    have HL20 : ∀ (fu : Nat) (v2_20 : Int) (v3_20 : Int) (H : Heap) (locs : List Loc) (ls : Array Slot), ((n) + 2 - v3_20) < (fu : Int) → ((0 ≤ v3_20 ∧ v3_20 ≤ (n) + 1)) → (0 ≤ v2_20 ∧ v2_20 ≤ 20) → va_P D vwCl [(hx1, .inr (11, [.ref ta, .ref hw1, .ref hw12, .ref ka, .ref hr1, .ref hq, .ref hv, .ref h, .ref hn1, .ref hL, .ref li, .int (iZ ev), .int (iZ mk), .int (iZ ou), .long up, .long lo])), (hw1, .inr (8, [.ref hs, .ref hc, .ref hy])), (hs, .inr (5, fs)), (hf, .inl (k 1, 36, .inl f)), (hg, .inl (k 1, 32, .inl g))] H → va_D A [(hx1, .inr (11, [.ref ta, .ref hw1, .ref hw12, .ref ka, .ref hr1, .ref hq, .ref hv, .ref h, .ref hn1, .ref hL, .ref li, .int (iZ ev), .int (iZ mk), .int (iZ ou), .long up, .long lo])), (hw1, .inr (8, [.ref hs, .ref hc, .ref hy])), (hs, .inr (5, fs)), (hf, .inl (k 1, 36, .inl f)), (hg, .inl (k 1, 32, .inl g))] → va_S A s.heap H locs → lv_has ls 5 [(3, .int (iZ v3_20)), (2, .int (iZ v2_20)), (0, .ref hx1), (1, .int (iZ x1))] → W p l e (rj 2 0 0) s m [.ref hx1, .int (iZ x1)].toArray below meth c H locs 0 0 (MQ below (QW (σ := ((Nat → Int) × (Nat → Int64) × (Nat → Nat → Int32) × (Nat → Nat → Int64))) (fun u => some (.int (iZ (u.1 0)))) (fun _ => True) (fun u => [(hx1, .inr (11, [.ref ta, .ref hw1, .ref hw12, .ref ka, .ref hr1, .ref hq, .ref hv, .ref h, .ref hn1, .ref hL, .ref li, .int (iZ ev), .int (iZ mk), .int (iZ (u.1 1)), .long up, .long lo])), (hw1, .inr (8, [.ref hs, .ref hc, .ref hy])), (hs, .inr (5, fs)), (hf, .inl (k 1, 36, .inl f)), (hg, .inl (k 1, 32, .inl g))]) D A) [.ref hx1, .int (iZ x1)].toArray s 0 0 A) (F0 m 20 ls []) := by
      intro fu
      induction fu with
      | zero => intro v2_20 v3_20 H locs ls hμ20 hi20 hf0_20 hP hD hS hl; exact absurd hμ20 (by omega)
      | succ fu ih20 =>
        intro v2_20 v3_20 H locs ls hμ20 hi20 hf0_20 hP hD hS hl
        refine lv_iload_n hx hb dX11_span_20 rfl (lv_at hl 0 rfl) ?_
        refine lv_aload_n hx hb dX11_span_21 rfl (lv_at hl 2 rfl) ?_
        refine va_get (D := D) (ci := 11) (v := .ref hw1) (C := RX11) (T := TX11) (N := 16) hx hb hts iX11 hown hK hP 0 rfl rfl 1 (by decide) (hts _ qf_X11_18) (fun _ h => h) rfl dX11_span_22 ?_
        refine va_get (D := D) (ci := 8) (v := .ref hs) (C := RX8) (T := TX8) (N := 3) hx hb hts iX8 hown hK hP 1 rfl rfl 0 (by decide) (hts _ qf_X11_54) (fun _ h => h) rfl dX11_span_25 ?_
        refine va_get (D := D) (ci := 5) (v := .int (iZ n)) (C := RX5) (T := TX5) (N := 7) hx hb hts iX5 hown hK hP 2 rfl rfl 3 (by decide) (hts _ qf_X11_169) (fun _ h => h) f3 dX11_span_28 ?_
        refine lv_icmp_ge (tgt := 86) hx hb dX11_span_31 (by decide) (fun c_3 => ?_) (fun c_3 => ?_)
        ·
          have c_3 := (zle (x := iZ n) (y := iZ v3_20) rfl rfl ⟨by omega, by omega⟩ ⟨by omega, by omega⟩).mp c_3
          refine lv_aload_n hx hb dX11_span_86 rfl (lv_at hl 2 rfl) ?_
          refine lv_iload_n hx hb dX11_span_87 rfl (lv_at hl 1 rfl) ?_
          refine CWV (As := [.int (iZ v2_20)]) (rest := []) (wc := [(hx1, .inr (11, [.ref ta, .ref hw1, .ref hw12, .ref ka, .ref hr1, .ref hq, .ref hv, .ref h, .ref hn1, .ref hL, .ref li, .int (iZ ev), .int (iZ mk), .int (iZ ou), .long up, .long lo]))]) (wr := [(hw1, .inr (8, [.ref hs, .ref hc, .ref hy])), (hs, .inr (5, fs)), (hf, .inl (k 1, 36, .inl f)), (hg, .inl (k 1, 32, .inl g))]) hx hb hml hown hts hKK hP hD hS hA (k_answer l D k hx1 ta hw1 hw12 ka hr1 hq hv h hn1 hL li ev mk ou up lo v2_20) ci_X11_answer qm_X11_174 ⟨Nat.le_of_ble_eq_true rfl, Nat.le_of_ble_eq_true rfl⟩ ⟨Nat.le_of_ble_eq_true rfl, Nat.le_of_ble_eq_true rfl⟩ [0] [1, 2, 3, 4] rfl rfl rfl rfl rfl (by decide) 0 rfl rfl rfl hl.1 rfl (Nat.le_of_ble_eq_true rfl) dX11_span_88 (fun u_4 H locs hφ hP hD hS => ?_)
          obtain ⟨I_5, L_6, F_7, G_8⟩ := u_4
          refine W.eq (g2 := F0 m 91 ls [.int (iZ v2_20)]) rfl ?_
          exact EWi hx hb hr hlocks hS (fun i => [v2_20, 0].getD i 0, fun i => [0].getD i 0, fun i => [].getD i (fun _ => 0), fun i => [].getD i (fun _ => 0)) rfl trivial (hP.sub [4, 0, 1, 2, 3] rfl) (hD.sub [4, 0, 1, 2, 3] rfl rfl) dX11_span_91
        ·
          have c_3 := mt (zle (x := iZ n) (y := iZ v3_20) rfl rfl ⟨by omega, by omega⟩ ⟨by omega, by omega⟩).mpr c_3
          refine lv_iload_n hx hb dX11_span_34 rfl (lv_at hl 0 rfl) ?_
          refine lv_iconst (v := iZ 1) hx hb dX11_span_35 (by decide) ?_
          refine lv_iadd hx hb dX11_span_36 ?_
          refine lv_topi (fun x_10 ex_10 => ?_)
          obtain rfl : x_10 = iZ (v3_20 + 1) := ex_10.trans (iZ_add v3_20 1)
          refine lv_istore (lv' := [(4, .int (iZ (v3_20 + 1))), (3, .int (iZ v3_20)), (2, .int (iZ v2_20)), (0, .ref hx1), (1, .int (iZ x1))]) hx hb dX11_span_37 hl (by decide) rfl (fun ls hl => ?_)
          have HL39 : ∀ (fu : Nat) (v2_39 : Int) (v4_39 : Int) (H : Heap) (locs : List Loc) (ls : Array Slot), ((n) + 2 - v4_39) < (fu : Int) → ((0 ≤ v4_39 ∧ v4_39 ≤ (n) + 1)) → (0 ≤ v2_39 ∧ v2_39 ≤ 20) → (0 ≤ v3_20 ∧ v3_20 < n) → va_P D vwCl [(hx1, .inr (11, [.ref ta, .ref hw1, .ref hw12, .ref ka, .ref hr1, .ref hq, .ref hv, .ref h, .ref hn1, .ref hL, .ref li, .int (iZ ev), .int (iZ mk), .int (iZ ou), .long up, .long lo])), (hw1, .inr (8, [.ref hs, .ref hc, .ref hy])), (hs, .inr (5, fs)), (hf, .inl (k 1, 36, .inl f)), (hg, .inl (k 1, 32, .inl g))] H → va_D A [(hx1, .inr (11, [.ref ta, .ref hw1, .ref hw12, .ref ka, .ref hr1, .ref hq, .ref hv, .ref h, .ref hn1, .ref hL, .ref li, .int (iZ ev), .int (iZ mk), .int (iZ ou), .long up, .long lo])), (hw1, .inr (8, [.ref hs, .ref hc, .ref hy])), (hs, .inr (5, fs)), (hf, .inl (k 1, 36, .inl f)), (hg, .inl (k 1, 32, .inl g))] → va_S A s.heap H locs → lv_has ls 5 [(4, .int (iZ v4_39)), (3, .int (iZ v3_20)), (2, .int (iZ v2_39)), (0, .ref hx1), (1, .int (iZ x1))] → W p l e (rj 2 0 0) s m [.ref hx1, .int (iZ x1)].toArray below meth c H locs 0 0 (MQ below (QW (σ := ((Nat → Int) × (Nat → Int64) × (Nat → Nat → Int32) × (Nat → Nat → Int64))) (fun u => some (.int (iZ (u.1 0)))) (fun _ => True) (fun u => [(hx1, .inr (11, [.ref ta, .ref hw1, .ref hw12, .ref ka, .ref hr1, .ref hq, .ref hv, .ref h, .ref hn1, .ref hL, .ref li, .int (iZ ev), .int (iZ mk), .int (iZ (u.1 1)), .long up, .long lo])), (hw1, .inr (8, [.ref hs, .ref hc, .ref hy])), (hs, .inr (5, fs)), (hf, .inl (k 1, 36, .inl f)), (hg, .inl (k 1, 32, .inl g))]) D A) [.ref hx1, .int (iZ x1)].toArray s 0 0 A) (F0 m 39 ls []) := by
            intro fu
            induction fu with
            | zero => intro v2_39 v4_39 H locs ls hμ39 hi39 hf0_39 hf1_39 hP hD hS hl; exact absurd hμ39 (by omega)
            | succ fu ih39 =>
              intro v2_39 v4_39 H locs ls hμ39 hi39 hf0_39 hf1_39 hP hD hS hl
              refine lv_iload hx hb dX11_span_39 (lv_at hl 0 rfl) ?_
              refine lv_aload_n hx hb dX11_span_41 rfl (lv_at hl 3 rfl) ?_
              refine va_get (D := D) (ci := 11) (v := .ref hw1) (C := RX11) (T := TX11) (N := 16) hx hb hts iX11 hown hK hP 0 rfl rfl 1 (by decide) (hts _ qf_X11_18) (fun _ h => h) rfl dX11_span_42 ?_
              refine va_get (D := D) (ci := 8) (v := .ref hs) (C := RX8) (T := TX8) (N := 3) hx hb hts iX8 hown hK hP 1 rfl rfl 0 (by decide) (hts _ qf_X11_54) (fun _ h => h) rfl dX11_span_45 ?_
              refine va_get (D := D) (ci := 5) (v := .int (iZ n)) (C := RX5) (T := TX5) (N := 7) hx hb hts iX5 hown hK hP 2 rfl rfl 3 (by decide) (hts _ qf_X11_169) (fun _ h => h) f3 dX11_span_48 ?_
              refine lv_icmp_ge (tgt := 80) hx hb dX11_span_51 (by decide) (fun c_11 => ?_) (fun c_11 => ?_)
              ·
                have c_11 := (zle (x := iZ n) (y := iZ v4_39) rfl rfl ⟨by omega, by omega⟩ ⟨by omega, by omega⟩).mp c_11
                refine lv_iinc (v := iZ (v3_20 + 1)) (lv' := [(3, .int (iZ (v3_20 + 1))), (4, .int (iZ v4_39)), (2, .int (iZ v2_39)), (0, .ref hx1), (1, .int (iZ x1))]) hx hb dX11_span_80 hl (k := 1) rfl (iZ_add v3_20 1) (by decide) rfl (fun ls hl => ?_)
                refine lv_goto (tgt := 20) hx hb dX11_span_83 (by decide) ?_
                exact ih20  v2_39 (v3_20 + 1) _ _ _ (by omega) (show (0 ≤ (v3_20 + 1) ∧ (v3_20 + 1) ≤ (n) + 1) from ⟨by omega, by omega⟩) (show 0 ≤ v2_39 ∧ v2_39 ≤ 20 from (by omega)) (hP.sub [0, 1, 2, 3, 4] rfl) (hD.sub [0, 1, 2, 3, 4] rfl rfl) hS (lv_sub hl [0, 2, 3, 4] rfl)
              ·
                have c_11 := mt (zle (x := iZ n) (y := iZ v4_39) rfl rfl ⟨by omega, by omega⟩ ⟨by omega, by omega⟩).mpr c_11
                refine lv_iload_n hx hb dX11_span_54 rfl (lv_at hl 2 rfl) ?_
                refine lv_aload_n hx hb dX11_span_55 rfl (lv_at hl 3 rfl) ?_
                refine va_get (D := D) (ci := 11) (v := .ref hw1) (C := RX11) (T := TX11) (N := 16) hx hb hts iX11 hown hK hP 0 rfl rfl 1 (by decide) (hts _ qf_X11_18) (fun _ h => h) rfl dX11_span_56 ?_
                refine va_get (D := D) (ci := 8) (v := .ref hs) (C := RX8) (T := TX8) (N := 3) hx hb hts iX8 hown hK hP 1 rfl rfl 0 (by decide) (hts _ qf_X11_54) (fun _ h => h) rfl dX11_span_59 ?_
                refine lv_iload_n hx hb dX11_span_62 rfl (lv_at hl 1 rfl) ?_
                refine lv_iload_n hx hb dX11_span_63 rfl (lv_at hl 4 rfl) ?_
                refine lv_iload hx hb dX11_span_64 (lv_at hl 0 rfl) ?_
                refine lv_iload_n hx hb dX11_span_66 rfl (lv_at hl 4 rfl) ?_
                refine CRV (As := [.int (iZ v3_20), .int (iZ x1), .int (iZ v4_39), .int (iZ x1)]) (rest := [.int (iZ v2_39)]) hx hb hml hown hts hKK (hP.sub (ws' := [(hs, .inr (5, fs)), (hf, .inl (k 1, 36, .inl f))]) [2, 3] rfl) (k_light l D k hs hf fs f1 f n hn hx0 v3_20 x1 v4_39 x1 ⟨by omega, by omega⟩ ⟨by omega, by omega⟩ ⟨by omega, by omega⟩ ⟨by omega, by omega⟩) ci_X5_lightBetween qm_X11_233 ⟨Nat.le_of_ble_eq_true rfl, Nat.le_of_ble_eq_true rfl⟩ ⟨Nat.le_of_ble_eq_true rfl, Nat.le_of_ble_eq_true rfl⟩ 0 rfl rfl rfl hl.1 rfl (Nat.le_of_ble_eq_true rfl) dX11_span_67 ?_
                have hl_h_12 := lt_rg (a := v3_20) (w := x1) (b := v4_39) (t := x1) hx0 ⟨by omega, by omega⟩ ⟨by omega, by omega⟩
                refine va_mmax (rest := []) hx hb (by rw [hml]; exact hl.1.symm) (own := RX11) hown (hts _ qm_X11_260) (hts _ qt_yJ9_max_7cf53) (hts _ qz_J9) (hts _ qc_J9_max_7cf53) (Nat.le_of_ble_eq_true rfl) (Nat.le_of_ble_eq_true rfl) (Nat.le_of_ble_eq_true rfl) (Nat.le_of_ble_eq_true rfl) dX11_span_70 ?_
                refine lv_topi (fun x_13 ex_13 => ?_)
                obtain rfl : x_13 = iZ (max v2_39 (lt f v3_20 x1 v4_39 x1)) := ex_13.trans (zmax ⟨by omega, by omega⟩ ⟨by omega, by omega⟩)
                refine lv_istore_n (lv' := [(2, .int (iZ (max v2_39 (lt f v3_20 x1 v4_39 x1)))), (4, .int (iZ v4_39)), (3, .int (iZ v3_20)), (0, .ref hx1), (1, .int (iZ x1))]) hx hb dX11_span_73 rfl hl (by decide) rfl (fun ls hl => ?_)
                refine lv_iinc (v := iZ (v4_39 + 1)) (lv' := [(4, .int (iZ (v4_39 + 1))), (2, .int (iZ (max v2_39 (lt f v3_20 x1 v4_39 x1)))), (3, .int (iZ v3_20)), (0, .ref hx1), (1, .int (iZ x1))]) hx hb dX11_span_74 hl (k := 1) rfl (iZ_add v4_39 1) (by decide) rfl (fun ls hl => ?_)
                refine lv_goto (tgt := 39) hx hb dX11_span_77 (by decide) ?_
                exact ih39  (max v2_39 (lt f v3_20 x1 v4_39 x1)) (v4_39 + 1) _ _ _ (by omega) (show (0 ≤ (v4_39 + 1) ∧ (v4_39 + 1) ≤ (n) + 1) from ⟨by omega, by omega⟩) (show 0 ≤ (max v2_39 (lt f v3_20 x1 v4_39 x1)) ∧ (max v2_39 (lt f v3_20 x1 v4_39 x1)) ≤ 20 from (by omega)) (show 0 ≤ v3_20 ∧ v3_20 < n from (by omega)) (hP.sub [0, 1, 2, 3, 4] rfl) (hD.sub [0, 1, 2, 3, 4] rfl rfl) hS (lv_sub hl [0, 2, 1, 3, 4] rfl)
          exact HL39 9 v2_20 (v3_20 + 1) _ _ _ (by omega) (show (0 ≤ (v3_20 + 1) ∧ (v3_20 + 1) ≤ (n) + 1) from ⟨by omega, by omega⟩) (show 0 ≤ v2_20 ∧ v2_20 ≤ 20 from (by omega)) (show 0 ≤ v3_20 ∧ v3_20 < n from (by omega)) (hP.sub [0, 1, 2, 3, 4] rfl) (hD.sub [0, 1, 2, 3, 4] rfl rfl) hS (lv_sub hl [0, 1, 2, 3, 4] rfl)
    exact HL20 9 0 0 _ _ _ (by omega) (show (0 ≤ 0 ∧ 0 ≤ (n) + 1) from ⟨by omega, by omega⟩) (show 0 ≤ 0 ∧ 0 ≤ 20 from (by omega)) (hP.sub [0, 1, 2, 3, 4] rfl) (hD.sub [0, 1, 2, 3, 4] rfl rfl) hS (lv_sub hl [0, 1, 2, 3] rfl)
  ·
    subst qz_1
    refine lv_if_ne (tgt := 16) hx hb dX11_span_7 (by decide) (fun c => absurd (by decide) c) (fun _ => ?_)
    refine lv_aload_n hx hb dX11_span_10 rfl (lv_at hl 0 rfl) ?_
    refine lv_iconst (v := iZ 1) hx hb dX11_span_11 (by decide) ?_
    refine CWV (As := [.int (iZ 1)]) (rest := []) (wc := [(hx1, .inr (11, [.ref ta, .ref hw1, .ref hw12, .ref ka, .ref hr1, .ref hq, .ref hv, .ref h, .ref hn1, .ref hL, .ref li, .int (iZ ev), .int (iZ mk), .int (iZ ou), .long up, .long lo]))]) (wr := [(hw1, .inr (8, [.ref hs, .ref hc, .ref hy])), (hs, .inr (5, fs)), (hf, .inl (k 1, 36, .inl f)), (hg, .inl (k 1, 32, .inl g))]) hx hb hml hown hts hKK hP hD hS hA (k_refuse l D k hx1 ta hw1 hw12 ka hr1 hq hv h hn1 hL li ev mk ou up lo 1) ci_X11_refuse qm_X11_126 ⟨Nat.le_of_ble_eq_true rfl, Nat.le_of_ble_eq_true rfl⟩ ⟨Nat.le_of_ble_eq_true rfl, Nat.le_of_ble_eq_true rfl⟩ [0] [1, 2, 3, 4] rfl rfl rfl rfl rfl (by decide) 0 rfl rfl rfl hl.1 rfl (Nat.le_of_ble_eq_true rfl) dX11_span_12 (fun u_15 H locs hφ hP hD hS => ?_)
    obtain ⟨I_16, L_17, F_18, G_19⟩ := u_15
    refine W.eq (g2 := F0 m 15 ls [.int (iZ (-1))]) rfl ?_
    exact EWi hx hb hr hlocks hS (fun i => [(-1), 1].getD i 0, fun i => [0].getD i 0, fun i => [].getD i (fun _ => 0), fun i => [].getD i (fun _ => 0)) rfl trivial (hP.sub [4, 0, 1, 2, 3] rfl) (hD.sub [4, 0, 1, 2, 3] rfl rfl) dX11_span_15
set_option maxHeartbeats 4000000 in
set_option maxRecDepth 100000 in
theorem p_closest (l : Launch) (D : va_G) (k : Nat → ClassId) (hx1 : Nat) (ta : Nat) (hw1 : Nat) (hw12 : Nat) (ka : Nat) (hr1 : Nat) (hq : Nat) (hv : Nat) (h : Nat) (hn1 : Nat) (hL : Nat) (li : Nat) (ev : Int) (mk : Int) (ou : Int) (up : Int64) (lo : Int64) (fs : List Value) (hs : Nat) (hf : Nat) (hg : Nat) (hc : Nat) (hy : Nat) (n : Int) (ni : Int) (lw : Int) (f : Nat → Int32) (g : Nat → Int32) (x1 : Int) (x2 : Int) (x3 : Int) (x4 : Int) (f1 : fs[1]? = some (.ref hf)) (f2 : fs[2]? = some (.ref hg)) (f3 : fs[3]? = some (.int (iZ n))) (f4 : fs[4]? = some (.int (iZ ni))) (f5 : fs[5]? = some (.int (iZ lw))) (hn : n ≤ 6) (hx0 : FXI f n) (hni : 0 ≤ ni ∧ ni ≤ 8) (hn0 : 0 ≤ n) (hlw : -2147483648 ≤ lw ∧ lw < 2147483648) (h9x1 : -2147483648 ≤ x1 ∧ x1 < 2147483648) (h9x2 : -2147483648 ≤ x2 ∧ x2 < 2147483648) (h9x3 : -2147483648 ≤ x3 ∧ x3 < 2147483648) (h9x4 : -2147483648 ≤ x4 ∧ x4 < 2147483648) : WD (σ := ((Nat → Int) × (Nat → Int64) × (Nat → Nat → Int32) × (Nat → Nat → Int64))) l yX11_closest cX11_closest 6 (some .int) 3 0 0 D k [.ref hx1, .int (iZ x1), .int (iZ x2), .int (iZ x3), .int (iZ x4)] [(hx1, .inr (11, [.ref ta, .ref hw1, .ref hw12, .ref ka, .ref hr1, .ref hq, .ref hv, .ref h, .ref hn1, .ref hL, .ref li, .int (iZ ev), .int (iZ mk), .int (iZ ou), .long up, .long lo])), (hw1, .inr (8, [.ref hs, .ref hc, .ref hy])), (hs, .inr (5, fs)), (hf, .inl (k 1, 36, .inl f)), (hg, .inl (k 1, 32, .inl g))] (fun u => some (.int (iZ (u.1 0)))) (fun _ => True) (fun u => [(hx1, .inr (11, [.ref ta, .ref hw1, .ref hw12, .ref ka, .ref hr1, .ref hq, .ref hv, .ref h, .ref hn1, .ref hL, .ref li, .int (iZ ev), .int (iZ mk), .int (iZ (u.1 1)), .long up, .long lo])), (hw1, .inr (8, [.ref hs, .ref hc, .ref hy])), (hs, .inr (5, fs)), (hf, .inl (k 1, 36, .inl f)), (hg, .inl (k 1, 32, .inl g))]) := by
  refine MW (by decide) (Nat.le_of_ble_eq_true rfl) (fun p e s m below meth c ls A hx hb hml hr hlocks hin hts hown hKK hP hD hS hA hl => ?_)
  have hK := hKK.1
  have hl : lv_has ls 6 [(0, .ref hx1), (1, .int (iZ x1)), (2, .int (iZ x2)), (3, .int (iZ x3)), (4, .int (iZ x4))] := hl
  refine lv_aload_n hx hb dX11_closest_0 rfl (lv_at hl 0 rfl) ?_
  refine lv_iload_n hx hb dX11_closest_1 rfl (lv_at hl 1 rfl) ?_
  refine lv_iload_n hx hb dX11_closest_2 rfl (lv_at hl 2 rfl) ?_
  refine CPV (As := [.int (iZ x1), .int (iZ x2)]) (rest := []) hx hb hml hown hts hKK (hP.sub (ws' := [(hx1, .inr (11, [.ref ta, .ref hw1, .ref hw12, .ref ka, .ref hr1, .ref hq, .ref hv, .ref h, .ref hn1, .ref hL, .ref li, .int (iZ ev), .int (iZ mk), .int (iZ ou), .long up, .long lo])), (hw1, .inr (8, [.ref hs, .ref hc, .ref hy])), (hs, .inr (5, fs))]) [0, 1, 2] rfl) (k_isCouple l D k hx1 ta hw1 hw12 ka hr1 hq hv h hn1 hL li ev mk ou up lo fs hs hc hy n x1 x2 f3 ⟨by omega, by omega⟩ ⟨by omega, by omega⟩ ⟨by omega, by omega⟩) ci_X11_isCouple qm_X11_237 ⟨Nat.le_of_ble_eq_true rfl, Nat.le_of_ble_eq_true rfl⟩ ⟨Nat.le_of_ble_eq_true rfl, Nat.le_of_ble_eq_true rfl⟩ 0 rfl rfl rfl hl.1 rfl (Nat.le_of_ble_eq_true rfl) dX11_closest_3 (fun z_1 hz_1 => ?_)
  rcases hz_1 with ⟨qz_1, hz_1⟩ | ⟨qz_1, hz_1⟩
  ·
    subst qz_1
    refine lv_if_eq (tgt := 26) hx hb dX11_closest_6 (by decide) (fun c => absurd c (by decide)) (fun _ => ?_)
    refine lv_iload_n hx hb dX11_closest_9 rfl (lv_at hl 3 rfl) ?_
    refine CPS (As := [.int (iZ x3)]) (rest := []) hx hb hml hown hts hKK (hP.sub (ws' := []) [] rfl) (k_isWeek l D k x3 ⟨by omega, by omega⟩) ci_X11_isWeek qm_X11_240 ⟨Nat.le_of_ble_eq_true rfl, Nat.le_of_ble_eq_true rfl⟩ ⟨Nat.le_of_ble_eq_true rfl, Nat.le_of_ble_eq_true rfl⟩ rfl hl.1 rfl (Nat.le_of_ble_eq_true rfl) dX11_closest_10 (fun z_3 hz_3 => ?_)
    rcases hz_3 with ⟨qz_3, hz_3⟩ | ⟨qz_3, hz_3⟩
    ·
      subst qz_3
      refine lv_if_eq (tgt := 26) hx hb dX11_closest_13 (by decide) (fun c => absurd c (by decide)) (fun _ => ?_)
      refine lv_iload hx hb dX11_closest_16 (lv_at hl 4 rfl) ?_
      refine lv_bipush (v := iZ 40) hx hb dX11_closest_18 (by decide) ?_
      refine CPS (As := [.int (iZ x4), .int (iZ 40)]) (rest := []) hx hb hml hown hts hKK (hP.sub (ws' := []) [] rfl) (k_isWithin l D k x4 40 ⟨by omega, by omega⟩ ⟨by omega, by omega⟩) ci_X11_isWithin qm_X11_103 ⟨Nat.le_of_ble_eq_true rfl, Nat.le_of_ble_eq_true rfl⟩ ⟨Nat.le_of_ble_eq_true rfl, Nat.le_of_ble_eq_true rfl⟩ rfl hl.1 rfl (Nat.le_of_ble_eq_true rfl) dX11_closest_20 (fun z_5 hz_5 => ?_)
      rcases hz_5 with ⟨qz_5, hz_5⟩ | ⟨qz_5, hz_5⟩
      ·
        subst qz_5
        refine lv_if_ne (tgt := 32) hx hb dX11_closest_23 (by decide) (fun _ => ?_) (fun c => absurd c (by decide))
        refine lv_iload_n hx hb dX11_closest_32 rfl (lv_at hl 3 rfl) ?_
        refine lv_istore (lv' := [(5, .int (iZ x3)), (0, .ref hx1), (1, .int (iZ x1)), (2, .int (iZ x2)), (3, .int (iZ x3)), (4, .int (iZ x4))]) hx hb dX11_closest_33 hl (by decide) rfl (fun ls hl => ?_)
        have HL35 : ∀ (fu : Nat) (v5_35 : Int) (H : Heap) (locs : List Loc) (ls : Array Slot), ((400) + 2 - v5_35) < (fu : Int) → ((x3 ≤ v5_35 ∧ v5_35 ≤ (400) + 1)) → va_P D vwCl [(hx1, .inr (11, [.ref ta, .ref hw1, .ref hw12, .ref ka, .ref hr1, .ref hq, .ref hv, .ref h, .ref hn1, .ref hL, .ref li, .int (iZ ev), .int (iZ mk), .int (iZ ou), .long up, .long lo])), (hw1, .inr (8, [.ref hs, .ref hc, .ref hy])), (hs, .inr (5, fs)), (hf, .inl (k 1, 36, .inl f)), (hg, .inl (k 1, 32, .inl g))] H → va_D A [(hx1, .inr (11, [.ref ta, .ref hw1, .ref hw12, .ref ka, .ref hr1, .ref hq, .ref hv, .ref h, .ref hn1, .ref hL, .ref li, .int (iZ ev), .int (iZ mk), .int (iZ ou), .long up, .long lo])), (hw1, .inr (8, [.ref hs, .ref hc, .ref hy])), (hs, .inr (5, fs)), (hf, .inl (k 1, 36, .inl f)), (hg, .inl (k 1, 32, .inl g))] → va_S A s.heap H locs → lv_has ls 6 [(5, .int (iZ v5_35)), (0, .ref hx1), (1, .int (iZ x1)), (2, .int (iZ x2)), (3, .int (iZ x3)), (4, .int (iZ x4))] → W p l e (rj 3 0 0) s m [.ref hx1, .int (iZ x1), .int (iZ x2), .int (iZ x3), .int (iZ x4)].toArray below meth c H locs 0 0 (MQ below (QW (σ := ((Nat → Int) × (Nat → Int64) × (Nat → Nat → Int32) × (Nat → Nat → Int64))) (fun u => some (.int (iZ (u.1 0)))) (fun _ => True) (fun u => [(hx1, .inr (11, [.ref ta, .ref hw1, .ref hw12, .ref ka, .ref hr1, .ref hq, .ref hv, .ref h, .ref hn1, .ref hL, .ref li, .int (iZ ev), .int (iZ mk), .int (iZ (u.1 1)), .long up, .long lo])), (hw1, .inr (8, [.ref hs, .ref hc, .ref hy])), (hs, .inr (5, fs)), (hf, .inl (k 1, 36, .inl f)), (hg, .inl (k 1, 32, .inl g))]) D A) [.ref hx1, .int (iZ x1), .int (iZ x2), .int (iZ x3), .int (iZ x4)].toArray s 0 0 A) (F0 m 35 ls []) := by
          intro fu
          induction fu with
          | zero => intro v5_35 H locs ls hμ35 hi35 hP hD hS hl; exact absurd hμ35 (by omega)
          | succ fu ih35 =>
            intro v5_35 H locs ls hμ35 hi35 hP hD hS hl
            refine lv_iload hx hb dX11_closest_35 (lv_at hl 0 rfl) ?_
            refine lv_sipush (v := iZ 400) hx hb dX11_closest_37 (by decide) ?_
            refine lv_icmp_gt (tgt := 77) hx hb dX11_closest_40 (by decide) (fun c_7 => ?_) (fun c_7 => ?_)
            ·
              have c_7 := (zlt (x := iZ 400) (y := iZ v5_35) rfl rfl ⟨by omega, by omega⟩ ⟨by omega, by omega⟩).mp c_7
              refine lv_aload_n hx hb dX11_closest_77 rfl (lv_at hl 1 rfl) ?_
              refine lv_bipush (v := iZ 6) hx hb dX11_closest_78 (by decide) ?_
              refine CWV (As := [.int (iZ 6)]) (rest := []) (wc := [(hx1, .inr (11, [.ref ta, .ref hw1, .ref hw12, .ref ka, .ref hr1, .ref hq, .ref hv, .ref h, .ref hn1, .ref hL, .ref li, .int (iZ ev), .int (iZ mk), .int (iZ ou), .long up, .long lo]))]) (wr := [(hw1, .inr (8, [.ref hs, .ref hc, .ref hy])), (hs, .inr (5, fs)), (hf, .inl (k 1, 36, .inl f)), (hg, .inl (k 1, 32, .inl g))]) hx hb hml hown hts hKK hP hD hS hA (k_refuse l D k hx1 ta hw1 hw12 ka hr1 hq hv h hn1 hL li ev mk ou up lo 6) ci_X11_refuse qm_X11_126 ⟨Nat.le_of_ble_eq_true rfl, Nat.le_of_ble_eq_true rfl⟩ ⟨Nat.le_of_ble_eq_true rfl, Nat.le_of_ble_eq_true rfl⟩ [0] [1, 2, 3, 4] rfl rfl rfl rfl rfl (by decide) 0 rfl rfl rfl hl.1 rfl (Nat.le_of_ble_eq_true rfl) dX11_closest_80 (fun u_8 H locs hφ hP hD hS => ?_)
              obtain ⟨I_9, L_10, F_11, G_12⟩ := u_8
              refine W.eq (g2 := F0 m 83 ls [.int (iZ (-1))]) rfl ?_
              exact EWi hx hb hr hlocks hS (fun i => [(-1), 6].getD i 0, fun i => [0].getD i 0, fun i => [].getD i (fun _ => 0), fun i => [].getD i (fun _ => 0)) rfl trivial (hP.sub [4, 0, 1, 2, 3] rfl) (hD.sub [4, 0, 1, 2, 3] rfl rfl) dX11_closest_83
            ·
              have c_7 := mt (zlt (x := iZ 400) (y := iZ v5_35) rfl rfl ⟨by omega, by omega⟩ ⟨by omega, by omega⟩).mpr c_7
              refine lv_aload_n hx hb dX11_closest_43 rfl (lv_at hl 1 rfl) ?_
              refine va_get (D := D) (ci := 11) (v := .ref hw1) (C := RX11) (T := TX11) (N := 16) hx hb hts iX11 hown hK hP 0 rfl rfl 1 (by decide) (hts _ qf_X11_18) (fun _ h => h) rfl dX11_closest_44 ?_
              refine va_get (D := D) (ci := 8) (v := .ref hs) (C := RX8) (T := TX8) (N := 3) hx hb hts iX8 hown hK hP 1 rfl rfl 0 (by decide) (hts _ qf_X11_54) (fun _ h => h) rfl dX11_closest_47 ?_
              refine lv_iload_n hx hb dX11_closest_50 rfl (lv_at hl 2 rfl) ?_
              refine lv_iload hx hb dX11_closest_51 (lv_at hl 0 rfl) ?_
              refine lv_iload_n hx hb dX11_closest_53 rfl (lv_at hl 3 rfl) ?_
              refine lv_iload hx hb dX11_closest_54 (lv_at hl 0 rfl) ?_
              refine CRV (As := [.int (iZ x1), .int (iZ v5_35), .int (iZ x2), .int (iZ v5_35)]) (rest := []) hx hb hml hown hts hKK (hP.sub (ws' := [(hs, .inr (5, fs)), (hf, .inl (k 1, 36, .inl f))]) [2, 3] rfl) (k_light l D k hs hf fs f1 f n hn hx0 x1 v5_35 x2 v5_35 ⟨by omega, by omega⟩ ⟨by omega, by omega⟩ ⟨by omega, by omega⟩ ⟨by omega, by omega⟩) ci_X5_lightBetween qm_X11_233 ⟨Nat.le_of_ble_eq_true rfl, Nat.le_of_ble_eq_true rfl⟩ ⟨Nat.le_of_ble_eq_true rfl, Nat.le_of_ble_eq_true rfl⟩ 0 rfl rfl rfl hl.1 rfl (Nat.le_of_ble_eq_true rfl) dX11_closest_56 ?_
              have hl_h_14 := lt_rg (a := x1) (w := v5_35) (b := x2) (t := v5_35) hx0 ⟨by omega, by omega⟩ ⟨by omega, by omega⟩
              refine lv_iload hx hb dX11_closest_59 (lv_at hl 5 rfl) ?_
              refine lv_icmp_gt (tgt := 71) hx hb dX11_closest_61 (by decide) (fun c_15 => ?_) (fun c_15 => ?_)
              ·
                have c_15 := (zlt (x := iZ x4) (y := iZ (lt f x1 v5_35 x2 v5_35)) rfl rfl ⟨by omega, by omega⟩ ⟨by omega, by omega⟩).mp c_15
                refine lv_iinc (v := iZ (v5_35 + 1)) (lv' := [(5, .int (iZ (v5_35 + 1))), (0, .ref hx1), (1, .int (iZ x1)), (2, .int (iZ x2)), (3, .int (iZ x3)), (4, .int (iZ x4))]) hx hb dX11_closest_71 hl (k := 0) rfl (iZ_add v5_35 1) (by decide) rfl (fun ls hl => ?_)
                refine lv_goto (tgt := 35) hx hb dX11_closest_74 (by decide) ?_
                exact ih35  (v5_35 + 1) _ _ _ (by omega) (show (x3 ≤ (v5_35 + 1) ∧ (v5_35 + 1) ≤ (400) + 1) from ⟨by omega, by omega⟩) (hP.sub [0, 1, 2, 3, 4] rfl) (hD.sub [0, 1, 2, 3, 4] rfl rfl) hS (lv_sub hl [0, 1, 2, 3, 4, 5] rfl)
              ·
                have c_15 := mt (zlt (x := iZ x4) (y := iZ (lt f x1 v5_35 x2 v5_35)) rfl rfl ⟨by omega, by omega⟩ ⟨by omega, by omega⟩).mpr c_15
                refine lv_aload_n hx hb dX11_closest_64 rfl (lv_at hl 1 rfl) ?_
                refine lv_iload hx hb dX11_closest_65 (lv_at hl 0 rfl) ?_
                refine CWV (As := [.int (iZ v5_35)]) (rest := []) (wc := [(hx1, .inr (11, [.ref ta, .ref hw1, .ref hw12, .ref ka, .ref hr1, .ref hq, .ref hv, .ref h, .ref hn1, .ref hL, .ref li, .int (iZ ev), .int (iZ mk), .int (iZ ou), .long up, .long lo]))]) (wr := [(hw1, .inr (8, [.ref hs, .ref hc, .ref hy])), (hs, .inr (5, fs)), (hf, .inl (k 1, 36, .inl f)), (hg, .inl (k 1, 32, .inl g))]) hx hb hml hown hts hKK hP hD hS hA (k_answer l D k hx1 ta hw1 hw12 ka hr1 hq hv h hn1 hL li ev mk ou up lo v5_35) ci_X11_answer qm_X11_174 ⟨Nat.le_of_ble_eq_true rfl, Nat.le_of_ble_eq_true rfl⟩ ⟨Nat.le_of_ble_eq_true rfl, Nat.le_of_ble_eq_true rfl⟩ [0] [1, 2, 3, 4] rfl rfl rfl rfl rfl (by decide) 0 rfl rfl rfl hl.1 rfl (Nat.le_of_ble_eq_true rfl) dX11_closest_67 (fun u_16 H locs hφ hP hD hS => ?_)
                obtain ⟨I_17, L_18, F_19, G_20⟩ := u_16
                refine W.eq (g2 := F0 m 70 ls [.int (iZ v5_35)]) rfl ?_
                exact EWi hx hb hr hlocks hS (fun i => [v5_35, 0].getD i 0, fun i => [0].getD i 0, fun i => [].getD i (fun _ => 0), fun i => [].getD i (fun _ => 0)) rfl trivial (hP.sub [4, 0, 1, 2, 3] rfl) (hD.sub [4, 0, 1, 2, 3] rfl rfl) dX11_closest_70
        exact HL35 404 x3 _ _ _ (by omega) (show (x3 ≤ x3 ∧ x3 ≤ (400) + 1) from ⟨by omega, by omega⟩) (hP.sub [0, 1, 2, 3, 4] rfl) (hD.sub [0, 1, 2, 3, 4] rfl rfl) hS (lv_sub hl [0, 1, 2, 3, 4, 5] rfl)
      ·
        subst qz_5
        refine lv_if_ne (tgt := 32) hx hb dX11_closest_23 (by decide) (fun c => absurd (by decide) c) (fun _ => ?_)
        refine lv_aload_n hx hb dX11_closest_26 rfl (lv_at hl 0 rfl) ?_
        refine lv_iconst (v := iZ 1) hx hb dX11_closest_27 (by decide) ?_
        refine CWV (As := [.int (iZ 1)]) (rest := []) (wc := [(hx1, .inr (11, [.ref ta, .ref hw1, .ref hw12, .ref ka, .ref hr1, .ref hq, .ref hv, .ref h, .ref hn1, .ref hL, .ref li, .int (iZ ev), .int (iZ mk), .int (iZ ou), .long up, .long lo]))]) (wr := [(hw1, .inr (8, [.ref hs, .ref hc, .ref hy])), (hs, .inr (5, fs)), (hf, .inl (k 1, 36, .inl f)), (hg, .inl (k 1, 32, .inl g))]) hx hb hml hown hts hKK hP hD hS hA (k_refuse l D k hx1 ta hw1 hw12 ka hr1 hq hv h hn1 hL li ev mk ou up lo 1) ci_X11_refuse qm_X11_126 ⟨Nat.le_of_ble_eq_true rfl, Nat.le_of_ble_eq_true rfl⟩ ⟨Nat.le_of_ble_eq_true rfl, Nat.le_of_ble_eq_true rfl⟩ [0] [1, 2, 3, 4] rfl rfl rfl rfl rfl (by decide) 0 rfl rfl rfl hl.1 rfl (Nat.le_of_ble_eq_true rfl) dX11_closest_28 (fun u_23 H locs hφ hP hD hS => ?_)
        obtain ⟨I_24, L_25, F_26, G_27⟩ := u_23
        refine W.eq (g2 := F0 m 31 ls [.int (iZ (-1))]) rfl ?_
        exact EWi hx hb hr hlocks hS (fun i => [(-1), 1].getD i 0, fun i => [0].getD i 0, fun i => [].getD i (fun _ => 0), fun i => [].getD i (fun _ => 0)) rfl trivial (hP.sub [4, 0, 1, 2, 3] rfl) (hD.sub [4, 0, 1, 2, 3] rfl rfl) dX11_closest_31
    ·
      subst qz_3
      refine lv_if_eq (tgt := 26) hx hb dX11_closest_13 (by decide) (fun _ => ?_) (fun c => absurd (by decide) c)
      refine lv_aload_n hx hb dX11_closest_26 rfl (lv_at hl 0 rfl) ?_
      refine lv_iconst (v := iZ 1) hx hb dX11_closest_27 (by decide) ?_
      refine CWV (As := [.int (iZ 1)]) (rest := []) (wc := [(hx1, .inr (11, [.ref ta, .ref hw1, .ref hw12, .ref ka, .ref hr1, .ref hq, .ref hv, .ref h, .ref hn1, .ref hL, .ref li, .int (iZ ev), .int (iZ mk), .int (iZ ou), .long up, .long lo]))]) (wr := [(hw1, .inr (8, [.ref hs, .ref hc, .ref hy])), (hs, .inr (5, fs)), (hf, .inl (k 1, 36, .inl f)), (hg, .inl (k 1, 32, .inl g))]) hx hb hml hown hts hKK hP hD hS hA (k_refuse l D k hx1 ta hw1 hw12 ka hr1 hq hv h hn1 hL li ev mk ou up lo 1) ci_X11_refuse qm_X11_126 ⟨Nat.le_of_ble_eq_true rfl, Nat.le_of_ble_eq_true rfl⟩ ⟨Nat.le_of_ble_eq_true rfl, Nat.le_of_ble_eq_true rfl⟩ [0] [1, 2, 3, 4] rfl rfl rfl rfl rfl (by decide) 0 rfl rfl rfl hl.1 rfl (Nat.le_of_ble_eq_true rfl) dX11_closest_28 (fun u_30 H locs hφ hP hD hS => ?_)
      obtain ⟨I_31, L_32, F_33, G_34⟩ := u_30
      refine W.eq (g2 := F0 m 31 ls [.int (iZ (-1))]) rfl ?_
      exact EWi hx hb hr hlocks hS (fun i => [(-1), 1].getD i 0, fun i => [0].getD i 0, fun i => [].getD i (fun _ => 0), fun i => [].getD i (fun _ => 0)) rfl trivial (hP.sub [4, 0, 1, 2, 3] rfl) (hD.sub [4, 0, 1, 2, 3] rfl rfl) dX11_closest_31
  ·
    subst qz_1
    refine lv_if_eq (tgt := 26) hx hb dX11_closest_6 (by decide) (fun _ => ?_) (fun c => absurd (by decide) c)
    refine lv_aload_n hx hb dX11_closest_26 rfl (lv_at hl 0 rfl) ?_
    refine lv_iconst (v := iZ 1) hx hb dX11_closest_27 (by decide) ?_
    refine CWV (As := [.int (iZ 1)]) (rest := []) (wc := [(hx1, .inr (11, [.ref ta, .ref hw1, .ref hw12, .ref ka, .ref hr1, .ref hq, .ref hv, .ref h, .ref hn1, .ref hL, .ref li, .int (iZ ev), .int (iZ mk), .int (iZ ou), .long up, .long lo]))]) (wr := [(hw1, .inr (8, [.ref hs, .ref hc, .ref hy])), (hs, .inr (5, fs)), (hf, .inl (k 1, 36, .inl f)), (hg, .inl (k 1, 32, .inl g))]) hx hb hml hown hts hKK hP hD hS hA (k_refuse l D k hx1 ta hw1 hw12 ka hr1 hq hv h hn1 hL li ev mk ou up lo 1) ci_X11_refuse qm_X11_126 ⟨Nat.le_of_ble_eq_true rfl, Nat.le_of_ble_eq_true rfl⟩ ⟨Nat.le_of_ble_eq_true rfl, Nat.le_of_ble_eq_true rfl⟩ [0] [1, 2, 3, 4] rfl rfl rfl rfl rfl (by decide) 0 rfl rfl rfl hl.1 rfl (Nat.le_of_ble_eq_true rfl) dX11_closest_28 (fun u_37 H locs hφ hP hD hS => ?_)
    obtain ⟨I_38, L_39, F_40, G_41⟩ := u_37
    refine W.eq (g2 := F0 m 31 ls [.int (iZ (-1))]) rfl ?_
    exact EWi hx hb hr hlocks hS (fun i => [(-1), 1].getD i 0, fun i => [0].getD i 0, fun i => [].getD i (fun _ => 0), fun i => [].getD i (fun _ => 0)) rfl trivial (hP.sub [4, 0, 1, 2, 3] rfl) (hD.sub [4, 0, 1, 2, 3] rfl rfl) dX11_closest_31
set_option maxHeartbeats 4000000 in
set_option maxRecDepth 100000 in
theorem p_price (l : Launch) (D : va_G) (k : Nat → ClassId) (hx1 : Nat) (ta : Nat) (hw1 : Nat) (hw12 : Nat) (ka : Nat) (hr1 : Nat) (hq : Nat) (hv : Nat) (h : Nat) (hn1 : Nat) (hL : Nat) (li : Nat) (ev : Int) (mk : Int) (ou : Int) (up : Int64) (lo : Int64) (fs : List Value) (hs : Nat) (hf : Nat) (hg : Nat) (hc : Nat) (hy : Nat) (n : Int) (ni : Int) (lw : Int) (f : Nat → Int32) (g : Nat → Int32) (x1 : Int) (x2 : Int) (f1 : fs[1]? = some (.ref hf)) (f2 : fs[2]? = some (.ref hg)) (f3 : fs[3]? = some (.int (iZ n))) (f4 : fs[4]? = some (.int (iZ ni))) (f5 : fs[5]? = some (.int (iZ lw))) (hn : n ≤ 6) (hx0 : FXI f n) (hni : 0 ≤ ni ∧ ni ≤ 8) (hn0 : 0 ≤ n) (hlw : -2147483648 ≤ lw ∧ lw < 2147483648) (h9x1 : -2147483648 ≤ x1 ∧ x1 < 2147483648) (h9x2 : -2147483648 ≤ x2 ∧ x2 < 2147483648) : WD (σ := ((Nat → Int) × (Nat → Int64) × (Nat → Nat → Int32) × (Nat → Nat → Int64))) l yX11_price cX11_price 3 (some .int) 2 0 0 D k [.ref hx1, .int (iZ x1), .int (iZ x2)] [(hx1, .inr (11, [.ref ta, .ref hw1, .ref hw12, .ref ka, .ref hr1, .ref hq, .ref hv, .ref h, .ref hn1, .ref hL, .ref li, .int (iZ ev), .int (iZ mk), .int (iZ ou), .long up, .long lo])), (hw1, .inr (8, [.ref hs, .ref hc, .ref hy])), (hs, .inr (5, fs)), (hf, .inl (k 1, 36, .inl f)), (hg, .inl (k 1, 32, .inl g))] (fun u => some (.int (iZ (u.1 0)))) (fun _ => True) (fun u => [(hx1, .inr (11, [.ref ta, .ref hw1, .ref hw12, .ref ka, .ref hr1, .ref hq, .ref hv, .ref h, .ref hn1, .ref hL, .ref li, .int (iZ ev), .int (iZ mk), .int (iZ (u.1 1)), .long up, .long lo])), (hw1, .inr (8, [.ref hs, .ref hc, .ref hy])), (hs, .inr (5, fs)), (hf, .inl (k 1, 36, .inl f)), (hg, .inl (k 1, 32, .inl g))]) := by
  refine MW (by decide) (Nat.le_of_ble_eq_true rfl) (fun p e s m below meth c ls A hx hb hml hr hlocks hin hts hown hKK hP hD hS hA hl => ?_)
  have hK := hKK.1
  have hl : lv_has ls 3 [(0, .ref hx1), (1, .int (iZ x1)), (2, .int (iZ x2))] := hl
  refine lv_aload_n hx hb dX11_price_0 rfl (lv_at hl 0 rfl) ?_
  refine lv_iload_n hx hb dX11_price_1 rfl (lv_at hl 1 rfl) ?_
  refine CPV (As := [.int (iZ x1)]) (rest := []) hx hb hml hown hts hKK (hP.sub (ws' := [(hx1, .inr (11, [.ref ta, .ref hw1, .ref hw12, .ref ka, .ref hr1, .ref hq, .ref hv, .ref h, .ref hn1, .ref hL, .ref li, .int (iZ ev), .int (iZ mk), .int (iZ ou), .long up, .long lo])), (hw1, .inr (8, [.ref hs, .ref hc, .ref hy])), (hs, .inr (5, fs))]) [0, 1, 2] rfl) (k_isRock l D k hx1 ta hw1 hw12 ka hr1 hq hv h hn1 hL li ev mk ou up lo fs hs hc hy n x1 f3 ⟨by omega, by omega⟩ ⟨by omega, by omega⟩) ci_X11_isRock qm_X11_221 ⟨Nat.le_of_ble_eq_true rfl, Nat.le_of_ble_eq_true rfl⟩ ⟨Nat.le_of_ble_eq_true rfl, Nat.le_of_ble_eq_true rfl⟩ 0 rfl rfl rfl hl.1 rfl (Nat.le_of_ble_eq_true rfl) dX11_price_2 (fun z_1 hz_1 => ?_)
  rcases hz_1 with ⟨qz_1, hz_1⟩ | ⟨qz_1, hz_1⟩
  ·
    subst qz_1
    refine lv_if_eq (tgt := 18) hx hb dX11_price_5 (by decide) (fun c => absurd c (by decide)) (fun _ => ?_)
    refine lv_iload_n hx hb dX11_price_8 rfl (lv_at hl 2 rfl) ?_
    refine lv_sipush (v := iZ 500) hx hb dX11_price_9 (by decide) ?_
    refine CPS (As := [.int (iZ x2), .int (iZ 500)]) (rest := []) hx hb hml hown hts hKK (hP.sub (ws' := []) [] rfl) (k_isWithin l D k x2 500 ⟨by omega, by omega⟩ ⟨by omega, by omega⟩) ci_X11_isWithin qm_X11_103 ⟨Nat.le_of_ble_eq_true rfl, Nat.le_of_ble_eq_true rfl⟩ ⟨Nat.le_of_ble_eq_true rfl, Nat.le_of_ble_eq_true rfl⟩ rfl hl.1 rfl (Nat.le_of_ble_eq_true rfl) dX11_price_12 (fun z_3 hz_3 => ?_)
    rcases hz_3 with ⟨qz_3, hz_3⟩ | ⟨qz_3, hz_3⟩
    ·
      subst qz_3
      refine lv_if_ne (tgt := 24) hx hb dX11_price_15 (by decide) (fun _ => ?_) (fun c => absurd c (by decide))
      refine lv_aload_n hx hb dX11_price_24 rfl (lv_at hl 0 rfl) ?_
      refine lv_aload_n hx hb dX11_price_25 rfl (lv_at hl 0 rfl) ?_
      refine va_get (D := D) (ci := 11) (v := .ref hw1) (C := RX11) (T := TX11) (N := 16) hx hb hts iX11 hown hK hP 0 rfl rfl 1 (by decide) (hts _ qf_X11_18) (fun _ h => h) rfl dX11_price_26 ?_
      refine va_get (D := D) (ci := 8) (v := .ref hs) (C := RX8) (T := TX8) (N := 3) hx hb hts iX8 hown hK hP 1 rfl rfl 0 (by decide) (hts _ qf_X11_54) (fun _ h => h) rfl dX11_price_29 ?_
      refine lv_iload_n hx hb dX11_price_32 rfl (lv_at hl 1 rfl) ?_
      refine lv_iload_n hx hb dX11_price_33 rfl (lv_at hl 2 rfl) ?_
      refine CRV (As := [.int (iZ x1), .int (iZ x2)]) (rest := [.ref hx1]) hx hb hml hown hts hKK (hP.sub (ws' := [(hs, .inr (5, fs)), (hf, .inl (k 1, 36, .inl f))]) [2, 3] rfl) (k_price l D k hs hf fs f1 f n hn hx0 x1 x2 ⟨by omega, by omega⟩ ⟨by omega, by omega⟩) ci_X5_priceIn qm_X11_337 ⟨Nat.le_of_ble_eq_true rfl, Nat.le_of_ble_eq_true rfl⟩ ⟨Nat.le_of_ble_eq_true rfl, Nat.le_of_ble_eq_true rfl⟩ 0 rfl rfl rfl hl.1 rfl (Nat.le_of_ble_eq_true rfl) dX11_price_34 ?_
      have hp_h_5 := pr_rg (w := x2) hx0 (a := x1) ⟨by omega, by omega⟩
      refine CWV (As := [.int (iZ (pr f x1 x2))]) (rest := []) (wc := [(hx1, .inr (11, [.ref ta, .ref hw1, .ref hw12, .ref ka, .ref hr1, .ref hq, .ref hv, .ref h, .ref hn1, .ref hL, .ref li, .int (iZ ev), .int (iZ mk), .int (iZ ou), .long up, .long lo]))]) (wr := [(hw1, .inr (8, [.ref hs, .ref hc, .ref hy])), (hs, .inr (5, fs)), (hf, .inl (k 1, 36, .inl f)), (hg, .inl (k 1, 32, .inl g))]) hx hb hml hown hts hKK hP hD hS hA (k_answer l D k hx1 ta hw1 hw12 ka hr1 hq hv h hn1 hL li ev mk ou up lo (pr f x1 x2)) ci_X11_answer qm_X11_174 ⟨Nat.le_of_ble_eq_true rfl, Nat.le_of_ble_eq_true rfl⟩ ⟨Nat.le_of_ble_eq_true rfl, Nat.le_of_ble_eq_true rfl⟩ [0] [1, 2, 3, 4] rfl rfl rfl rfl rfl (by decide) 0 rfl rfl rfl hl.1 rfl (Nat.le_of_ble_eq_true rfl) dX11_price_37 (fun u_6 H locs hφ hP hD hS => ?_)
      obtain ⟨I_7, L_8, F_9, G_10⟩ := u_6
      refine W.eq (g2 := F0 m 40 ls [.int (iZ (pr f x1 x2))]) rfl ?_
      exact EWi hx hb hr hlocks hS (fun i => [(pr f x1 x2), 0].getD i 0, fun i => [0].getD i 0, fun i => [].getD i (fun _ => 0), fun i => [].getD i (fun _ => 0)) rfl trivial (hP.sub [4, 0, 1, 2, 3] rfl) (hD.sub [4, 0, 1, 2, 3] rfl rfl) dX11_price_40
    ·
      subst qz_3
      refine lv_if_ne (tgt := 24) hx hb dX11_price_15 (by decide) (fun c => absurd (by decide) c) (fun _ => ?_)
      refine lv_aload_n hx hb dX11_price_18 rfl (lv_at hl 0 rfl) ?_
      refine lv_iconst (v := iZ 1) hx hb dX11_price_19 (by decide) ?_
      refine CWV (As := [.int (iZ 1)]) (rest := []) (wc := [(hx1, .inr (11, [.ref ta, .ref hw1, .ref hw12, .ref ka, .ref hr1, .ref hq, .ref hv, .ref h, .ref hn1, .ref hL, .ref li, .int (iZ ev), .int (iZ mk), .int (iZ ou), .long up, .long lo]))]) (wr := [(hw1, .inr (8, [.ref hs, .ref hc, .ref hy])), (hs, .inr (5, fs)), (hf, .inl (k 1, 36, .inl f)), (hg, .inl (k 1, 32, .inl g))]) hx hb hml hown hts hKK hP hD hS hA (k_refuse l D k hx1 ta hw1 hw12 ka hr1 hq hv h hn1 hL li ev mk ou up lo 1) ci_X11_refuse qm_X11_126 ⟨Nat.le_of_ble_eq_true rfl, Nat.le_of_ble_eq_true rfl⟩ ⟨Nat.le_of_ble_eq_true rfl, Nat.le_of_ble_eq_true rfl⟩ [0] [1, 2, 3, 4] rfl rfl rfl rfl rfl (by decide) 0 rfl rfl rfl hl.1 rfl (Nat.le_of_ble_eq_true rfl) dX11_price_20 (fun u_13 H locs hφ hP hD hS => ?_)
      obtain ⟨I_14, L_15, F_16, G_17⟩ := u_13
      refine W.eq (g2 := F0 m 23 ls [.int (iZ (-1))]) rfl ?_
      exact EWi hx hb hr hlocks hS (fun i => [(-1), 1].getD i 0, fun i => [0].getD i 0, fun i => [].getD i (fun _ => 0), fun i => [].getD i (fun _ => 0)) rfl trivial (hP.sub [4, 0, 1, 2, 3] rfl) (hD.sub [4, 0, 1, 2, 3] rfl rfl) dX11_price_23
  ·
    subst qz_1
    refine lv_if_eq (tgt := 18) hx hb dX11_price_5 (by decide) (fun _ => ?_) (fun c => absurd (by decide) c)
    refine lv_aload_n hx hb dX11_price_18 rfl (lv_at hl 0 rfl) ?_
    refine lv_iconst (v := iZ 1) hx hb dX11_price_19 (by decide) ?_
    refine CWV (As := [.int (iZ 1)]) (rest := []) (wc := [(hx1, .inr (11, [.ref ta, .ref hw1, .ref hw12, .ref ka, .ref hr1, .ref hq, .ref hv, .ref h, .ref hn1, .ref hL, .ref li, .int (iZ ev), .int (iZ mk), .int (iZ ou), .long up, .long lo]))]) (wr := [(hw1, .inr (8, [.ref hs, .ref hc, .ref hy])), (hs, .inr (5, fs)), (hf, .inl (k 1, 36, .inl f)), (hg, .inl (k 1, 32, .inl g))]) hx hb hml hown hts hKK hP hD hS hA (k_refuse l D k hx1 ta hw1 hw12 ka hr1 hq hv h hn1 hL li ev mk ou up lo 1) ci_X11_refuse qm_X11_126 ⟨Nat.le_of_ble_eq_true rfl, Nat.le_of_ble_eq_true rfl⟩ ⟨Nat.le_of_ble_eq_true rfl, Nat.le_of_ble_eq_true rfl⟩ [0] [1, 2, 3, 4] rfl rfl rfl rfl rfl (by decide) 0 rfl rfl rfl hl.1 rfl (Nat.le_of_ble_eq_true rfl) dX11_price_20 (fun u_20 H locs hφ hP hD hS => ?_)
    obtain ⟨I_21, L_22, F_23, G_24⟩ := u_20
    refine W.eq (g2 := F0 m 23 ls [.int (iZ (-1))]) rfl ?_
    exact EWi hx hb hr hlocks hS (fun i => [(-1), 1].getD i 0, fun i => [0].getD i 0, fun i => [].getD i (fun _ => 0), fun i => [].getD i (fun _ => 0)) rfl trivial (hP.sub [4, 0, 1, 2, 3] rfl) (hD.sub [4, 0, 1, 2, 3] rfl rfl) dX11_price_23
set_option maxHeartbeats 4000000 in
set_option maxRecDepth 100000 in
theorem p_gain (l : Launch) (D : va_G) (k : Nat → ClassId) (hx1 : Nat) (ta : Nat) (hw1 : Nat) (hw12 : Nat) (ka : Nat) (hr1 : Nat) (hq : Nat) (hv : Nat) (h : Nat) (hn1 : Nat) (hL : Nat) (li : Nat) (ev : Int) (mk : Int) (ou : Int) (up : Int64) (lo : Int64) (fs : List Value) (hs : Nat) (hf : Nat) (hg : Nat) (hc : Nat) (hy : Nat) (n : Int) (ni : Int) (lw : Int) (f : Nat → Int32) (g : Nat → Int32) (x1 : Int) (x2 : Int) (x3 : Int) (f1 : fs[1]? = some (.ref hf)) (f2 : fs[2]? = some (.ref hg)) (f3 : fs[3]? = some (.int (iZ n))) (f4 : fs[4]? = some (.int (iZ ni))) (f5 : fs[5]? = some (.int (iZ lw))) (hn : n ≤ 6) (hx0 : FXI f n) (hni : 0 ≤ ni ∧ ni ≤ 8) (hn0 : 0 ≤ n) (hlw : -2147483648 ≤ lw ∧ lw < 2147483648) (h9x1 : -2147483648 ≤ x1 ∧ x1 < 2147483648) (h9x2 : -2147483648 ≤ x2 ∧ x2 < 2147483648) (h9x3 : -2147483648 ≤ x3 ∧ x3 < 2147483648) : WD (σ := ((Nat → Int) × (Nat → Int64) × (Nat → Nat → Int32) × (Nat → Nat → Int64))) l yX11_gain cX11_gain 4 (some .int) 3 0 0 D k [.ref hx1, .int (iZ x1), .int (iZ x2), .int (iZ x3)] [(hx1, .inr (11, [.ref ta, .ref hw1, .ref hw12, .ref ka, .ref hr1, .ref hq, .ref hv, .ref h, .ref hn1, .ref hL, .ref li, .int (iZ ev), .int (iZ mk), .int (iZ ou), .long up, .long lo])), (hw1, .inr (8, [.ref hs, .ref hc, .ref hy])), (hs, .inr (5, fs)), (hf, .inl (k 1, 36, .inl f)), (hg, .inl (k 1, 32, .inl g))] (fun u => some (.int (iZ (u.1 0)))) (fun _ => True) (fun u => [(hx1, .inr (11, [.ref ta, .ref hw1, .ref hw12, .ref ka, .ref hr1, .ref hq, .ref hv, .ref h, .ref hn1, .ref hL, .ref li, .int (iZ ev), .int (iZ mk), .int (iZ (u.1 1)), .long up, .long lo])), (hw1, .inr (8, [.ref hs, .ref hc, .ref hy])), (hs, .inr (5, fs)), (hf, .inl (k 1, 36, .inl f)), (hg, .inl (k 1, 32, .inl g))]) := by
  refine MW (by decide) (Nat.le_of_ble_eq_true rfl) (fun p e s m below meth c ls A hx hb hml hr hlocks hin hts hown hKK hP hD hS hA hl => ?_)
  have hK := hKK.1
  have hl : lv_has ls 4 [(0, .ref hx1), (1, .int (iZ x1)), (2, .int (iZ x2)), (3, .int (iZ x3))] := hl
  refine lv_aload_n hx hb dX11_gain_0 rfl (lv_at hl 0 rfl) ?_
  refine lv_iload_n hx hb dX11_gain_1 rfl (lv_at hl 1 rfl) ?_
  refine lv_iload_n hx hb dX11_gain_2 rfl (lv_at hl 3 rfl) ?_
  refine CPV (As := [.int (iZ x1), .int (iZ x3)]) (rest := []) hx hb hml hown hts hKK (hP.sub (ws' := [(hx1, .inr (11, [.ref ta, .ref hw1, .ref hw12, .ref ka, .ref hr1, .ref hq, .ref hv, .ref h, .ref hn1, .ref hL, .ref li, .int (iZ ev), .int (iZ mk), .int (iZ ou), .long up, .long lo])), (hw1, .inr (8, [.ref hs, .ref hc, .ref hy])), (hs, .inr (5, fs))]) [0, 1, 2] rfl) (k_isCouple l D k hx1 ta hw1 hw12 ka hr1 hq hv h hn1 hL li ev mk ou up lo fs hs hc hy n x1 x3 f3 ⟨by omega, by omega⟩ ⟨by omega, by omega⟩ ⟨by omega, by omega⟩) ci_X11_isCouple qm_X11_237 ⟨Nat.le_of_ble_eq_true rfl, Nat.le_of_ble_eq_true rfl⟩ ⟨Nat.le_of_ble_eq_true rfl, Nat.le_of_ble_eq_true rfl⟩ 0 rfl rfl rfl hl.1 rfl (Nat.le_of_ble_eq_true rfl) dX11_gain_3 (fun z_1 hz_1 => ?_)
  rcases hz_1 with ⟨qz_1, hz_1⟩ | ⟨qz_1, hz_1⟩
  ·
    subst qz_1
    refine lv_if_eq (tgt := 16) hx hb dX11_gain_6 (by decide) (fun c => absurd c (by decide)) (fun _ => ?_)
    refine lv_iload_n hx hb dX11_gain_9 rfl (lv_at hl 2 rfl) ?_
    refine CPS (As := [.int (iZ x2)]) (rest := []) hx hb hml hown hts hKK (hP.sub (ws' := []) [] rfl) (k_isWeek l D k x2 ⟨by omega, by omega⟩) ci_X11_isWeek qm_X11_240 ⟨Nat.le_of_ble_eq_true rfl, Nat.le_of_ble_eq_true rfl⟩ ⟨Nat.le_of_ble_eq_true rfl, Nat.le_of_ble_eq_true rfl⟩ rfl hl.1 rfl (Nat.le_of_ble_eq_true rfl) dX11_gain_10 (fun z_3 hz_3 => ?_)
    rcases hz_3 with ⟨qz_3, hz_3⟩ | ⟨qz_3, hz_3⟩
    ·
      subst qz_3
      refine lv_if_ne (tgt := 22) hx hb dX11_gain_13 (by decide) (fun _ => ?_) (fun c => absurd c (by decide))
      refine lv_aload_n hx hb dX11_gain_22 rfl (lv_at hl 0 rfl) ?_
      refine lv_aload_n hx hb dX11_gain_23 rfl (lv_at hl 0 rfl) ?_
      refine va_get (D := D) (ci := 11) (v := .ref hw1) (C := RX11) (T := TX11) (N := 16) hx hb hts iX11 hown hK hP 0 rfl rfl 1 (by decide) (hts _ qf_X11_18) (fun _ h => h) rfl dX11_gain_24 ?_
      refine va_get (D := D) (ci := 8) (v := .ref hs) (C := RX8) (T := TX8) (N := 3) hx hb hts iX8 hown hK hP 1 rfl rfl 0 (by decide) (hts _ qf_X11_54) (fun _ h => h) rfl dX11_gain_27 ?_
      refine lv_iload_n hx hb dX11_gain_30 rfl (lv_at hl 1 rfl) ?_
      refine lv_iload_n hx hb dX11_gain_31 rfl (lv_at hl 2 rfl) ?_
      refine lv_iload_n hx hb dX11_gain_32 rfl (lv_at hl 3 rfl) ?_
      refine CPV (As := [.int (iZ x1), .int (iZ x2), .int (iZ x3)]) (rest := [.ref hx1]) hx hb hml hown hts hKK (hP.sub (ws' := [(hs, .inr (5, fs)), (hf, .inl (k 1, 36, .inl f))]) [2, 3] rfl) (k_gain l D k hs hf fs f1 f n hn hx0 x1 x2 x3 ⟨by omega, by omega⟩ ⟨by omega, by omega⟩ ⟨by omega, by omega⟩) ci_X5_gainOf qm_X11_340 ⟨Nat.le_of_ble_eq_true rfl, Nat.le_of_ble_eq_true rfl⟩ ⟨Nat.le_of_ble_eq_true rfl, Nat.le_of_ble_eq_true rfl⟩ 0 rfl rfl rfl hl.1 rfl (Nat.le_of_ble_eq_true rfl) dX11_gain_33 (fun z_5 hz_5 => ?_)
      have hrz_5 : -319 ≤ z_5 ∧ z_5 ≤ 319 := by obtain ⟨t9, -, e9⟩ := hz_5; have a9 := pr_rg (a := x3) (w := t9) hx0 ⟨by omega, by omega⟩; have b9 := pr_rg (a := x1) (w := x2) hx0 ⟨by omega, by omega⟩; omega
      refine CWV (As := [.int (iZ z_5)]) (rest := []) (wc := [(hx1, .inr (11, [.ref ta, .ref hw1, .ref hw12, .ref ka, .ref hr1, .ref hq, .ref hv, .ref h, .ref hn1, .ref hL, .ref li, .int (iZ ev), .int (iZ mk), .int (iZ ou), .long up, .long lo]))]) (wr := [(hw1, .inr (8, [.ref hs, .ref hc, .ref hy])), (hs, .inr (5, fs)), (hf, .inl (k 1, 36, .inl f)), (hg, .inl (k 1, 32, .inl g))]) hx hb hml hown hts hKK hP hD hS hA (k_answer l D k hx1 ta hw1 hw12 ka hr1 hq hv h hn1 hL li ev mk ou up lo z_5) ci_X11_answer qm_X11_174 ⟨Nat.le_of_ble_eq_true rfl, Nat.le_of_ble_eq_true rfl⟩ ⟨Nat.le_of_ble_eq_true rfl, Nat.le_of_ble_eq_true rfl⟩ [0] [1, 2, 3, 4] rfl rfl rfl rfl rfl (by decide) 0 rfl rfl rfl hl.1 rfl (Nat.le_of_ble_eq_true rfl) dX11_gain_36 (fun u_6 H locs hφ hP hD hS => ?_)
      obtain ⟨I_7, L_8, F_9, G_10⟩ := u_6
      refine W.eq (g2 := F0 m 39 ls [.int (iZ z_5)]) rfl ?_
      exact EWi hx hb hr hlocks hS (fun i => [z_5, 0].getD i 0, fun i => [0].getD i 0, fun i => [].getD i (fun _ => 0), fun i => [].getD i (fun _ => 0)) rfl trivial (hP.sub [4, 0, 1, 2, 3] rfl) (hD.sub [4, 0, 1, 2, 3] rfl rfl) dX11_gain_39
    ·
      subst qz_3
      refine lv_if_ne (tgt := 22) hx hb dX11_gain_13 (by decide) (fun c => absurd (by decide) c) (fun _ => ?_)
      refine lv_aload_n hx hb dX11_gain_16 rfl (lv_at hl 0 rfl) ?_
      refine lv_iconst (v := iZ 1) hx hb dX11_gain_17 (by decide) ?_
      refine CWV (As := [.int (iZ 1)]) (rest := []) (wc := [(hx1, .inr (11, [.ref ta, .ref hw1, .ref hw12, .ref ka, .ref hr1, .ref hq, .ref hv, .ref h, .ref hn1, .ref hL, .ref li, .int (iZ ev), .int (iZ mk), .int (iZ ou), .long up, .long lo]))]) (wr := [(hw1, .inr (8, [.ref hs, .ref hc, .ref hy])), (hs, .inr (5, fs)), (hf, .inl (k 1, 36, .inl f)), (hg, .inl (k 1, 32, .inl g))]) hx hb hml hown hts hKK hP hD hS hA (k_refuse l D k hx1 ta hw1 hw12 ka hr1 hq hv h hn1 hL li ev mk ou up lo 1) ci_X11_refuse qm_X11_126 ⟨Nat.le_of_ble_eq_true rfl, Nat.le_of_ble_eq_true rfl⟩ ⟨Nat.le_of_ble_eq_true rfl, Nat.le_of_ble_eq_true rfl⟩ [0] [1, 2, 3, 4] rfl rfl rfl rfl rfl (by decide) 0 rfl rfl rfl hl.1 rfl (Nat.le_of_ble_eq_true rfl) dX11_gain_18 (fun u_13 H locs hφ hP hD hS => ?_)
      obtain ⟨I_14, L_15, F_16, G_17⟩ := u_13
      refine W.eq (g2 := F0 m 21 ls [.int (iZ (-1))]) rfl ?_
      exact EWi hx hb hr hlocks hS (fun i => [(-1), 1].getD i 0, fun i => [0].getD i 0, fun i => [].getD i (fun _ => 0), fun i => [].getD i (fun _ => 0)) rfl trivial (hP.sub [4, 0, 1, 2, 3] rfl) (hD.sub [4, 0, 1, 2, 3] rfl rfl) dX11_gain_21
  ·
    subst qz_1
    refine lv_if_eq (tgt := 16) hx hb dX11_gain_6 (by decide) (fun _ => ?_) (fun c => absurd (by decide) c)
    refine lv_aload_n hx hb dX11_gain_16 rfl (lv_at hl 0 rfl) ?_
    refine lv_iconst (v := iZ 1) hx hb dX11_gain_17 (by decide) ?_
    refine CWV (As := [.int (iZ 1)]) (rest := []) (wc := [(hx1, .inr (11, [.ref ta, .ref hw1, .ref hw12, .ref ka, .ref hr1, .ref hq, .ref hv, .ref h, .ref hn1, .ref hL, .ref li, .int (iZ ev), .int (iZ mk), .int (iZ ou), .long up, .long lo]))]) (wr := [(hw1, .inr (8, [.ref hs, .ref hc, .ref hy])), (hs, .inr (5, fs)), (hf, .inl (k 1, 36, .inl f)), (hg, .inl (k 1, 32, .inl g))]) hx hb hml hown hts hKK hP hD hS hA (k_refuse l D k hx1 ta hw1 hw12 ka hr1 hq hv h hn1 hL li ev mk ou up lo 1) ci_X11_refuse qm_X11_126 ⟨Nat.le_of_ble_eq_true rfl, Nat.le_of_ble_eq_true rfl⟩ ⟨Nat.le_of_ble_eq_true rfl, Nat.le_of_ble_eq_true rfl⟩ [0] [1, 2, 3, 4] rfl rfl rfl rfl rfl (by decide) 0 rfl rfl rfl hl.1 rfl (Nat.le_of_ble_eq_true rfl) dX11_gain_18 (fun u_20 H locs hφ hP hD hS => ?_)
    obtain ⟨I_21, L_22, F_23, G_24⟩ := u_20
    refine W.eq (g2 := F0 m 21 ls [.int (iZ (-1))]) rfl ?_
    exact EWi hx hb hr hlocks hS (fun i => [(-1), 1].getD i 0, fun i => [0].getD i 0, fun i => [].getD i (fun _ => 0), fun i => [].getD i (fun _ => 0)) rfl trivial (hP.sub [4, 0, 1, 2, 3] rfl) (hD.sub [4, 0, 1, 2, 3] rfl rfl) dX11_gain_21
set_option maxHeartbeats 4000000 in
set_option maxRecDepth 100000 in
theorem p_market (l : Launch) (D : va_G) (k : Nat → ClassId) (hx1 : Nat) (ta : Nat) (hw1 : Nat) (hw12 : Nat) (ka : Nat) (hr1 : Nat) (hq : Nat) (hv : Nat) (h : Nat) (hn1 : Nat) (hL : Nat) (li : Nat) (ev : Int) (mk : Int) (ou : Int) (up : Int64) (lo : Int64) (fs : List Value) (hs : Nat) (hf : Nat) (hg : Nat) (hc : Nat) (hy : Nat) (n : Int) (ni : Int) (lw : Int) (f : Nat → Int32) (g : Nat → Int32) (x1 : Int) (x2 : Int) (f1 : fs[1]? = some (.ref hf)) (f2 : fs[2]? = some (.ref hg)) (f3 : fs[3]? = some (.int (iZ n))) (f4 : fs[4]? = some (.int (iZ ni))) (f5 : fs[5]? = some (.int (iZ lw))) (hn : n ≤ 6) (hx0 : FXI f n) (hni : 0 ≤ ni ∧ ni ≤ 8) (hn0 : 0 ≤ n) (hlw : -2147483648 ≤ lw ∧ lw < 2147483648) (h9x1 : -2147483648 ≤ x1 ∧ x1 < 2147483648) (h9x2 : -2147483648 ≤ x2 ∧ x2 < 2147483648) : WD (σ := ((Nat → Int) × (Nat → Int64) × (Nat → Nat → Int32) × (Nat → Nat → Int64))) l yX11_market cX11_market 7 (some .int) 3 0 0 D k [.ref hx1, .int (iZ x1), .int (iZ x2)] [(hx1, .inr (11, [.ref ta, .ref hw1, .ref hw12, .ref ka, .ref hr1, .ref hq, .ref hv, .ref h, .ref hn1, .ref hL, .ref li, .int (iZ ev), .int (iZ mk), .int (iZ ou), .long up, .long lo])), (hw1, .inr (8, [.ref hs, .ref hc, .ref hy])), (hs, .inr (5, fs)), (hf, .inl (k 1, 36, .inl f)), (hg, .inl (k 1, 32, .inl g))] (fun u => some (.int (iZ (u.1 0)))) (fun _ => True) (fun u => [(hx1, .inr (11, [.ref ta, .ref hw1, .ref hw12, .ref ka, .ref hr1, .ref hq, .ref hv, .ref h, .ref hn1, .ref hL, .ref li, .int (iZ ev), .int (iZ mk), .int (iZ (u.1 1)), .long up, .long lo])), (hw1, .inr (8, [.ref hs, .ref hc, .ref hy])), (hs, .inr (5, fs)), (hf, .inl (k 1, 36, .inl f)), (hg, .inl (k 1, 32, .inl g))]) := by
  refine MW (by decide) (Nat.le_of_ble_eq_true rfl) (fun p e s m below meth c ls A hx hb hml hr hlocks hin hts hown hKK hP hD hS hA hl => ?_)
  have hK := hKK.1
  have hl : lv_has ls 7 [(0, .ref hx1), (1, .int (iZ x1)), (2, .int (iZ x2))] := hl
  refine lv_aload_n hx hb dX11_market_0 rfl (lv_at hl 0 rfl) ?_
  refine lv_iload_n hx hb dX11_market_1 rfl (lv_at hl 1 rfl) ?_
  refine CPV (As := [.int (iZ x1)]) (rest := []) hx hb hml hown hts hKK (hP.sub (ws' := [(hx1, .inr (11, [.ref ta, .ref hw1, .ref hw12, .ref ka, .ref hr1, .ref hq, .ref hv, .ref h, .ref hn1, .ref hL, .ref li, .int (iZ ev), .int (iZ mk), .int (iZ ou), .long up, .long lo])), (hw1, .inr (8, [.ref hs, .ref hc, .ref hy])), (hs, .inr (5, fs))]) [0, 1, 2] rfl) (k_isRock l D k hx1 ta hw1 hw12 ka hr1 hq hv h hn1 hL li ev mk ou up lo fs hs hc hy n x1 f3 ⟨by omega, by omega⟩ ⟨by omega, by omega⟩) ci_X11_isRock qm_X11_221 ⟨Nat.le_of_ble_eq_true rfl, Nat.le_of_ble_eq_true rfl⟩ ⟨Nat.le_of_ble_eq_true rfl, Nat.le_of_ble_eq_true rfl⟩ 0 rfl rfl rfl hl.1 rfl (Nat.le_of_ble_eq_true rfl) dX11_market_2 (fun z_1 hz_1 => ?_)
  rcases hz_1 with ⟨qz_1, hz_1⟩ | ⟨qz_1, hz_1⟩
  ·
    subst qz_1
    refine lv_if_eq (tgt := 15) hx hb dX11_market_5 (by decide) (fun c => absurd c (by decide)) (fun _ => ?_)
    refine lv_iload_n hx hb dX11_market_8 rfl (lv_at hl 2 rfl) ?_
    refine CPS (As := [.int (iZ x2)]) (rest := []) hx hb hml hown hts hKK (hP.sub (ws' := []) [] rfl) (k_isWeek l D k x2 ⟨by omega, by omega⟩) ci_X11_isWeek qm_X11_240 ⟨Nat.le_of_ble_eq_true rfl, Nat.le_of_ble_eq_true rfl⟩ ⟨Nat.le_of_ble_eq_true rfl, Nat.le_of_ble_eq_true rfl⟩ rfl hl.1 rfl (Nat.le_of_ble_eq_true rfl) dX11_market_9 (fun z_3 hz_3 => ?_)
    rcases hz_3 with ⟨qz_3, hz_3⟩ | ⟨qz_3, hz_3⟩
    ·
      subst qz_3
      refine lv_if_ne (tgt := 21) hx hb dX11_market_12 (by decide) (fun _ => ?_) (fun c => absurd c (by decide))
      refine lv_iconst (v := iZ (-1)) hx hb dX11_market_21 (by decide) ?_
      refine lv_istore_n (lv' := [(3, .int (iZ (-1))), (0, .ref hx1), (1, .int (iZ x1)), (2, .int (iZ x2))]) hx hb dX11_market_22 rfl hl (by decide) rfl (fun ls hl => ?_)
      refine lv_iconst (v := iZ 0) hx hb dX11_market_23 (by decide) ?_
      refine lv_istore (lv' := [(4, .int (iZ 0)), (3, .int (iZ (-1))), (0, .ref hx1), (1, .int (iZ x1)), (2, .int (iZ x2))]) hx hb dX11_market_24 hl (by decide) rfl (fun ls hl => ?_)
      refine lv_iconst (v := iZ 0) hx hb dX11_market_26 (by decide) ?_
      refine lv_istore (lv' := [(5, .int (iZ 0)), (4, .int (iZ 0)), (3, .int (iZ (-1))), (0, .ref hx1), (1, .int (iZ x1)), (2, .int (iZ x2))]) hx hb dX11_market_27 hl (by decide) rfl (fun ls hl => ?_)
      have HL29 : ∀ (fu : Nat) (v4_29 : Int) (v3_29 : Int) (v5_29 : Int) (H : Heap) (locs : List Loc) (ls : Array Slot), ((n) + 2 - v5_29) < (fu : Int) → ((0 ≤ v5_29 ∧ v5_29 ≤ (n) + 1)) → (-1 ≤ v3_29 ∧ v3_29 < n) → (-319 ≤ v4_29 ∧ v4_29 ≤ 319) → va_P D vwCl [(hx1, .inr (11, [.ref ta, .ref hw1, .ref hw12, .ref ka, .ref hr1, .ref hq, .ref hv, .ref h, .ref hn1, .ref hL, .ref li, .int (iZ ev), .int (iZ mk), .int (iZ ou), .long up, .long lo])), (hw1, .inr (8, [.ref hs, .ref hc, .ref hy])), (hs, .inr (5, fs)), (hf, .inl (k 1, 36, .inl f)), (hg, .inl (k 1, 32, .inl g))] H → va_D A [(hx1, .inr (11, [.ref ta, .ref hw1, .ref hw12, .ref ka, .ref hr1, .ref hq, .ref hv, .ref h, .ref hn1, .ref hL, .ref li, .int (iZ ev), .int (iZ mk), .int (iZ ou), .long up, .long lo])), (hw1, .inr (8, [.ref hs, .ref hc, .ref hy])), (hs, .inr (5, fs)), (hf, .inl (k 1, 36, .inl f)), (hg, .inl (k 1, 32, .inl g))] → va_S A s.heap H locs → lv_has ls 7 [(5, .int (iZ v5_29)), (4, .int (iZ v4_29)), (3, .int (iZ v3_29)), (0, .ref hx1), (1, .int (iZ x1)), (2, .int (iZ x2))] → W p l e (rj 3 0 0) s m [.ref hx1, .int (iZ x1), .int (iZ x2)].toArray below meth c H locs 0 0 (MQ below (QW (σ := ((Nat → Int) × (Nat → Int64) × (Nat → Nat → Int32) × (Nat → Nat → Int64))) (fun u => some (.int (iZ (u.1 0)))) (fun _ => True) (fun u => [(hx1, .inr (11, [.ref ta, .ref hw1, .ref hw12, .ref ka, .ref hr1, .ref hq, .ref hv, .ref h, .ref hn1, .ref hL, .ref li, .int (iZ ev), .int (iZ mk), .int (iZ (u.1 1)), .long up, .long lo])), (hw1, .inr (8, [.ref hs, .ref hc, .ref hy])), (hs, .inr (5, fs)), (hf, .inl (k 1, 36, .inl f)), (hg, .inl (k 1, 32, .inl g))]) D A) [.ref hx1, .int (iZ x1), .int (iZ x2)].toArray s 0 0 A) (F0 m 29 ls []) := by
        intro fu
        induction fu with
        | zero => intro v4_29 v3_29 v5_29 H locs ls hμ29 hi29 hf0_29 hf1_29 hP hD hS hl; exact absurd hμ29 (by omega)
        | succ fu ih29 =>
          intro v4_29 v3_29 v5_29 H locs ls hμ29 hi29 hf0_29 hf1_29 hP hD hS hl
          refine lv_iload hx hb dX11_market_29 (lv_at hl 0 rfl) ?_
          refine lv_aload_n hx hb dX11_market_31 rfl (lv_at hl 3 rfl) ?_
          refine va_get (D := D) (ci := 11) (v := .ref hw1) (C := RX11) (T := TX11) (N := 16) hx hb hts iX11 hown hK hP 0 rfl rfl 1 (by decide) (hts _ qf_X11_18) (fun _ h => h) rfl dX11_market_32 ?_
          refine va_get (D := D) (ci := 8) (v := .ref hs) (C := RX8) (T := TX8) (N := 3) hx hb hts iX8 hown hK hP 1 rfl rfl 0 (by decide) (hts _ qf_X11_54) (fun _ h => h) rfl dX11_market_35 ?_
          refine va_get (D := D) (ci := 5) (v := .int (iZ n)) (C := RX5) (T := TX5) (N := 7) hx hb hts iX5 hown hK hP 2 rfl rfl 3 (by decide) (hts _ qf_X11_169) (fun _ h => h) f3 dX11_market_38 ?_
          refine lv_icmp_ge (tgt := 91) hx hb dX11_market_41 (by decide) (fun c_5 => ?_) (fun c_5 => ?_)
          ·
            have c_5 := (zle (x := iZ n) (y := iZ v5_29) rfl rfl ⟨by omega, by omega⟩ ⟨by omega, by omega⟩).mp c_5
            refine lv_aload_n hx hb dX11_market_91 rfl (lv_at hl 3 rfl) ?_
            refine lv_iload_n hx hb dX11_market_92 rfl (lv_at hl 2 rfl) ?_
            refine CWV (As := [.int (iZ v3_29)]) (rest := []) (wc := [(hx1, .inr (11, [.ref ta, .ref hw1, .ref hw12, .ref ka, .ref hr1, .ref hq, .ref hv, .ref h, .ref hn1, .ref hL, .ref li, .int (iZ ev), .int (iZ mk), .int (iZ ou), .long up, .long lo]))]) (wr := [(hw1, .inr (8, [.ref hs, .ref hc, .ref hy])), (hs, .inr (5, fs)), (hf, .inl (k 1, 36, .inl f)), (hg, .inl (k 1, 32, .inl g))]) hx hb hml hown hts hKK hP hD hS hA (k_answerIfAny l D k hx1 ta hw1 hw12 ka hr1 hq hv h hn1 hL li ev mk ou up lo v3_29 ⟨by omega, by omega⟩) ci_X11_answerIfAny qm_X11_251 ⟨Nat.le_of_ble_eq_true rfl, Nat.le_of_ble_eq_true rfl⟩ ⟨Nat.le_of_ble_eq_true rfl, Nat.le_of_ble_eq_true rfl⟩ [0] [1, 2, 3, 4] rfl rfl rfl rfl rfl (by decide) 0 rfl rfl rfl hl.1 rfl (Nat.le_of_ble_eq_true rfl) dX11_market_93 (fun u_6 H locs hφ hP hD hS => ?_)
            obtain ⟨I_7, L_8, F_9, G_10⟩ := u_6
            have p_12 : (v3_29 = -1 ∧ (I_7 1) = 6) ∨ (¬ v3_29 = -1 ∧ (I_7 1) = 0) := hφ
            refine W.eq (g2 := F0 m 96 ls [.int (iZ v3_29)]) rfl ?_
            exact EWi hx hb hr hlocks hS (fun i => [v3_29, (I_7 1)].getD i 0, fun i => [0].getD i 0, fun i => [].getD i (fun _ => 0), fun i => [].getD i (fun _ => 0)) rfl trivial (hP.sub [4, 0, 1, 2, 3] rfl) (hD.sub [4, 0, 1, 2, 3] rfl rfl) dX11_market_96
          ·
            have c_5 := mt (zle (x := iZ n) (y := iZ v5_29) rfl rfl ⟨by omega, by omega⟩ ⟨by omega, by omega⟩).mpr c_5
            refine lv_aload_n hx hb dX11_market_44 rfl (lv_at hl 3 rfl) ?_
            refine va_get (D := D) (ci := 11) (v := .ref hw1) (C := RX11) (T := TX11) (N := 16) hx hb hts iX11 hown hK hP 0 rfl rfl 1 (by decide) (hts _ qf_X11_18) (fun _ h => h) rfl dX11_market_45 ?_
            refine va_get (D := D) (ci := 8) (v := .ref hs) (C := RX8) (T := TX8) (N := 3) hx hb hts iX8 hown hK hP 1 rfl rfl 0 (by decide) (hts _ qf_X11_54) (fun _ h => h) rfl dX11_market_48 ?_
            refine lv_iload_n hx hb dX11_market_51 rfl (lv_at hl 4 rfl) ?_
            refine lv_iload_n hx hb dX11_market_52 rfl (lv_at hl 5 rfl) ?_
            refine lv_iload hx hb dX11_market_53 (lv_at hl 0 rfl) ?_
            refine CPV (As := [.int (iZ x1), .int (iZ x2), .int (iZ v5_29)]) (rest := []) hx hb hml hown hts hKK (hP.sub (ws' := [(hs, .inr (5, fs)), (hf, .inl (k 1, 36, .inl f))]) [2, 3] rfl) (k_gain l D k hs hf fs f1 f n hn hx0 x1 x2 v5_29 ⟨by omega, by omega⟩ ⟨by omega, by omega⟩ ⟨by omega, by omega⟩) ci_X5_gainOf qm_X11_340 ⟨Nat.le_of_ble_eq_true rfl, Nat.le_of_ble_eq_true rfl⟩ ⟨Nat.le_of_ble_eq_true rfl, Nat.le_of_ble_eq_true rfl⟩ 0 rfl rfl rfl hl.1 rfl (Nat.le_of_ble_eq_true rfl) dX11_market_55 (fun z_13 hz_13 => ?_)
            have hrz_13 : -319 ≤ z_13 ∧ z_13 ≤ 319 := by obtain ⟨t9, -, e9⟩ := hz_13; have a9 := pr_rg (a := v5_29) (w := t9) hx0 ⟨by omega, by omega⟩; have b9 := pr_rg (a := x1) (w := x2) hx0 ⟨by omega, by omega⟩; omega
            refine lv_istore (lv' := [(6, .int (iZ z_13)), (5, .int (iZ v5_29)), (4, .int (iZ v4_29)), (3, .int (iZ v3_29)), (0, .ref hx1), (1, .int (iZ x1)), (2, .int (iZ x2))]) hx hb dX11_market_58 hl (by decide) rfl (fun ls hl => ?_)
            refine lv_iload hx hb dX11_market_60 (lv_at hl 1 rfl) ?_
            refine lv_iload_n hx hb dX11_market_62 rfl (lv_at hl 5 rfl) ?_
            refine lv_icmp_eq (tgt := 85) hx hb dX11_market_63 (by decide) (fun c_14 => ?_) (fun c_14 => ?_)
            ·
              have c_14 := (zeq (x := iZ v5_29) (y := iZ x1) rfl rfl ⟨by omega, by omega⟩ ⟨by omega, by omega⟩).mp c_14
              refine lv_iinc (v := iZ (v5_29 + 1)) (lv' := [(5, .int (iZ (v5_29 + 1))), (6, .int (iZ z_13)), (4, .int (iZ v4_29)), (3, .int (iZ v3_29)), (0, .ref hx1), (1, .int (iZ x1)), (2, .int (iZ x2))]) hx hb dX11_market_85 hl (k := 1) rfl (iZ_add v5_29 1) (by decide) rfl (fun ls hl => ?_)
              refine lv_goto (tgt := 29) hx hb dX11_market_88 (by decide) ?_
              exact ih29  v4_29 v3_29 (v5_29 + 1) _ _ _ (by omega) (show (0 ≤ (v5_29 + 1) ∧ (v5_29 + 1) ≤ (n) + 1) from ⟨by omega, by omega⟩) (show -1 ≤ v3_29 ∧ v3_29 < n from (by omega)) (show -319 ≤ v4_29 ∧ v4_29 ≤ 319 from (by omega)) (hP.sub [0, 1, 2, 3, 4] rfl) (hD.sub [0, 1, 2, 3, 4] rfl rfl) hS (lv_sub hl [0, 2, 3, 4, 5, 6] rfl)
            ·
              have c_14 := mt (zeq (x := iZ v5_29) (y := iZ x1) rfl rfl ⟨by omega, by omega⟩ ⟨by omega, by omega⟩).mpr c_14
              refine lv_iload_n hx hb dX11_market_66 rfl (lv_at hl 3 rfl) ?_
              refine lv_iconst (v := iZ (-1)) hx hb dX11_market_67 (by decide) ?_
              refine lv_icmp_eq (tgt := 78) hx hb dX11_market_68 (by decide) (fun c_15 => ?_) (fun c_15 => ?_)
              ·
                have c_15 := (zeq (x := iZ v3_29) (y := iZ (-1)) rfl rfl ⟨by omega, by omega⟩ ⟨by omega, by omega⟩).mp c_15
                refine lv_iload hx hb dX11_market_78 (lv_at hl 0 rfl) ?_
                refine lv_istore (lv' := [(4, .int (iZ z_13)), (6, .int (iZ z_13)), (5, .int (iZ v5_29)), (3, .int (iZ v3_29)), (0, .ref hx1), (1, .int (iZ x1)), (2, .int (iZ x2))]) hx hb dX11_market_80 hl (by decide) rfl (fun ls hl => ?_)
                refine lv_iload hx hb dX11_market_82 (lv_at hl 2 rfl) ?_
                refine lv_istore_n (lv' := [(3, .int (iZ v5_29)), (4, .int (iZ z_13)), (6, .int (iZ z_13)), (5, .int (iZ v5_29)), (0, .ref hx1), (1, .int (iZ x1)), (2, .int (iZ x2))]) hx hb dX11_market_84 rfl hl (by decide) rfl (fun ls hl => ?_)
                refine lv_iinc (v := iZ (v5_29 + 1)) (lv' := [(5, .int (iZ (v5_29 + 1))), (3, .int (iZ v5_29)), (4, .int (iZ z_13)), (6, .int (iZ z_13)), (0, .ref hx1), (1, .int (iZ x1)), (2, .int (iZ x2))]) hx hb dX11_market_85 hl (k := 3) rfl (iZ_add v5_29 1) (by decide) rfl (fun ls hl => ?_)
                refine lv_goto (tgt := 29) hx hb dX11_market_88 (by decide) ?_
                exact ih29  z_13 v5_29 (v5_29 + 1) _ _ _ (by omega) (show (0 ≤ (v5_29 + 1) ∧ (v5_29 + 1) ≤ (n) + 1) from ⟨by omega, by omega⟩) (show -1 ≤ v5_29 ∧ v5_29 < n from (by omega)) (show -319 ≤ z_13 ∧ z_13 ≤ 319 from (by omega)) (hP.sub [0, 1, 2, 3, 4] rfl) (hD.sub [0, 1, 2, 3, 4] rfl rfl) hS (lv_sub hl [0, 2, 1, 4, 5, 6] rfl)
              ·
                have c_15 := mt (zeq (x := iZ v3_29) (y := iZ (-1)) rfl rfl ⟨by omega, by omega⟩ ⟨by omega, by omega⟩).mpr c_15
                refine lv_iload hx hb dX11_market_71 (lv_at hl 0 rfl) ?_
                refine lv_iload hx hb dX11_market_73 (lv_at hl 2 rfl) ?_
                refine lv_icmp_le (tgt := 85) hx hb dX11_market_75 (by decide) (fun c_16 => ?_) (fun c_16 => ?_)
                ·
                  have c_16 := (zle (x := iZ z_13) (y := iZ v4_29) rfl rfl ⟨by omega, by omega⟩ ⟨by omega, by omega⟩).mp c_16
                  refine lv_iinc (v := iZ (v5_29 + 1)) (lv' := [(5, .int (iZ (v5_29 + 1))), (6, .int (iZ z_13)), (4, .int (iZ v4_29)), (3, .int (iZ v3_29)), (0, .ref hx1), (1, .int (iZ x1)), (2, .int (iZ x2))]) hx hb dX11_market_85 hl (k := 1) rfl (iZ_add v5_29 1) (by decide) rfl (fun ls hl => ?_)
                  refine lv_goto (tgt := 29) hx hb dX11_market_88 (by decide) ?_
                  exact ih29  v4_29 v3_29 (v5_29 + 1) _ _ _ (by omega) (show (0 ≤ (v5_29 + 1) ∧ (v5_29 + 1) ≤ (n) + 1) from ⟨by omega, by omega⟩) (show -1 ≤ v3_29 ∧ v3_29 < n from (by omega)) (show -319 ≤ v4_29 ∧ v4_29 ≤ 319 from (by omega)) (hP.sub [0, 1, 2, 3, 4] rfl) (hD.sub [0, 1, 2, 3, 4] rfl rfl) hS (lv_sub hl [0, 2, 3, 4, 5, 6] rfl)
                ·
                  have c_16 := mt (zle (x := iZ z_13) (y := iZ v4_29) rfl rfl ⟨by omega, by omega⟩ ⟨by omega, by omega⟩).mpr c_16
                  refine lv_iload hx hb dX11_market_78 (lv_at hl 0 rfl) ?_
                  refine lv_istore (lv' := [(4, .int (iZ z_13)), (6, .int (iZ z_13)), (5, .int (iZ v5_29)), (3, .int (iZ v3_29)), (0, .ref hx1), (1, .int (iZ x1)), (2, .int (iZ x2))]) hx hb dX11_market_80 hl (by decide) rfl (fun ls hl => ?_)
                  refine lv_iload hx hb dX11_market_82 (lv_at hl 2 rfl) ?_
                  refine lv_istore_n (lv' := [(3, .int (iZ v5_29)), (4, .int (iZ z_13)), (6, .int (iZ z_13)), (5, .int (iZ v5_29)), (0, .ref hx1), (1, .int (iZ x1)), (2, .int (iZ x2))]) hx hb dX11_market_84 rfl hl (by decide) rfl (fun ls hl => ?_)
                  refine lv_iinc (v := iZ (v5_29 + 1)) (lv' := [(5, .int (iZ (v5_29 + 1))), (3, .int (iZ v5_29)), (4, .int (iZ z_13)), (6, .int (iZ z_13)), (0, .ref hx1), (1, .int (iZ x1)), (2, .int (iZ x2))]) hx hb dX11_market_85 hl (k := 3) rfl (iZ_add v5_29 1) (by decide) rfl (fun ls hl => ?_)
                  refine lv_goto (tgt := 29) hx hb dX11_market_88 (by decide) ?_
                  exact ih29  z_13 v5_29 (v5_29 + 1) _ _ _ (by omega) (show (0 ≤ (v5_29 + 1) ∧ (v5_29 + 1) ≤ (n) + 1) from ⟨by omega, by omega⟩) (show -1 ≤ v5_29 ∧ v5_29 < n from (by omega)) (show -319 ≤ z_13 ∧ z_13 ≤ 319 from (by omega)) (hP.sub [0, 1, 2, 3, 4] rfl) (hD.sub [0, 1, 2, 3, 4] rfl rfl) hS (lv_sub hl [0, 2, 1, 4, 5, 6] rfl)
      exact HL29 9 0 (-1) 0 _ _ _ (by omega) (show (0 ≤ 0 ∧ 0 ≤ (n) + 1) from ⟨by omega, by omega⟩) (show -1 ≤ (-1) ∧ (-1) < n from (by omega)) (show -319 ≤ 0 ∧ 0 ≤ 319 from (by omega)) (hP.sub [0, 1, 2, 3, 4] rfl) (hD.sub [0, 1, 2, 3, 4] rfl rfl) hS (lv_sub hl [0, 1, 2, 3, 4, 5] rfl)
    ·
      subst qz_3
      refine lv_if_ne (tgt := 21) hx hb dX11_market_12 (by decide) (fun c => absurd (by decide) c) (fun _ => ?_)
      refine lv_aload_n hx hb dX11_market_15 rfl (lv_at hl 0 rfl) ?_
      refine lv_iconst (v := iZ 1) hx hb dX11_market_16 (by decide) ?_
      refine CWV (As := [.int (iZ 1)]) (rest := []) (wc := [(hx1, .inr (11, [.ref ta, .ref hw1, .ref hw12, .ref ka, .ref hr1, .ref hq, .ref hv, .ref h, .ref hn1, .ref hL, .ref li, .int (iZ ev), .int (iZ mk), .int (iZ ou), .long up, .long lo]))]) (wr := [(hw1, .inr (8, [.ref hs, .ref hc, .ref hy])), (hs, .inr (5, fs)), (hf, .inl (k 1, 36, .inl f)), (hg, .inl (k 1, 32, .inl g))]) hx hb hml hown hts hKK hP hD hS hA (k_refuse l D k hx1 ta hw1 hw12 ka hr1 hq hv h hn1 hL li ev mk ou up lo 1) ci_X11_refuse qm_X11_126 ⟨Nat.le_of_ble_eq_true rfl, Nat.le_of_ble_eq_true rfl⟩ ⟨Nat.le_of_ble_eq_true rfl, Nat.le_of_ble_eq_true rfl⟩ [0] [1, 2, 3, 4] rfl rfl rfl rfl rfl (by decide) 0 rfl rfl rfl hl.1 rfl (Nat.le_of_ble_eq_true rfl) dX11_market_17 (fun u_18 H locs hφ hP hD hS => ?_)
      obtain ⟨I_19, L_20, F_21, G_22⟩ := u_18
      refine W.eq (g2 := F0 m 20 ls [.int (iZ (-1))]) rfl ?_
      exact EWi hx hb hr hlocks hS (fun i => [(-1), 1].getD i 0, fun i => [0].getD i 0, fun i => [].getD i (fun _ => 0), fun i => [].getD i (fun _ => 0)) rfl trivial (hP.sub [4, 0, 1, 2, 3] rfl) (hD.sub [4, 0, 1, 2, 3] rfl rfl) dX11_market_20
  ·
    subst qz_1
    refine lv_if_eq (tgt := 15) hx hb dX11_market_5 (by decide) (fun _ => ?_) (fun c => absurd (by decide) c)
    refine lv_aload_n hx hb dX11_market_15 rfl (lv_at hl 0 rfl) ?_
    refine lv_iconst (v := iZ 1) hx hb dX11_market_16 (by decide) ?_
    refine CWV (As := [.int (iZ 1)]) (rest := []) (wc := [(hx1, .inr (11, [.ref ta, .ref hw1, .ref hw12, .ref ka, .ref hr1, .ref hq, .ref hv, .ref h, .ref hn1, .ref hL, .ref li, .int (iZ ev), .int (iZ mk), .int (iZ ou), .long up, .long lo]))]) (wr := [(hw1, .inr (8, [.ref hs, .ref hc, .ref hy])), (hs, .inr (5, fs)), (hf, .inl (k 1, 36, .inl f)), (hg, .inl (k 1, 32, .inl g))]) hx hb hml hown hts hKK hP hD hS hA (k_refuse l D k hx1 ta hw1 hw12 ka hr1 hq hv h hn1 hL li ev mk ou up lo 1) ci_X11_refuse qm_X11_126 ⟨Nat.le_of_ble_eq_true rfl, Nat.le_of_ble_eq_true rfl⟩ ⟨Nat.le_of_ble_eq_true rfl, Nat.le_of_ble_eq_true rfl⟩ [0] [1, 2, 3, 4] rfl rfl rfl rfl rfl (by decide) 0 rfl rfl rfl hl.1 rfl (Nat.le_of_ble_eq_true rfl) dX11_market_17 (fun u_25 H locs hφ hP hD hS => ?_)
    obtain ⟨I_26, L_27, F_28, G_29⟩ := u_25
    refine W.eq (g2 := F0 m 20 ls [.int (iZ (-1))]) rfl ?_
    exact EWi hx hb hr hlocks hS (fun i => [(-1), 1].getD i 0, fun i => [0].getD i 0, fun i => [].getD i (fun _ => 0), fun i => [].getD i (fun _ => 0)) rfl trivial (hP.sub [4, 0, 1, 2, 3] rfl) (hD.sub [4, 0, 1, 2, 3] rfl rfl) dX11_market_20
theorem mx1_ne (y : Int64) : ¬ (if y < 1 then (1 : Int64) else y) = 0 := by
  intro h
  split at h
  · exact absurd h (by decide)
  · rename_i h2
    rw [h] at h2
    exact h2 (by decide)
set_option maxHeartbeats 4000000 in
set_option maxRecDepth 100000 in
theorem k_tellFraction (l : Launch) (D : va_G) (k : Nat → ClassId) (hx1 : Nat) (ta : Nat) (hw1 : Nat) (hw12 : Nat) (ka : Nat) (hr1 : Nat) (hq : Nat) (hv : Nat) (h : Nat) (hn1 : Nat) (hL : Nat) (li : Nat) (ev : Int) (mk : Int) (ou : Int) (up : Int64) (lo : Int64) (x : Int64) (y : Int64) : WD (σ := ((Nat → Int) × (Nat → Int64) × (Nat → Nat → Int32) × (Nat → Nat → Int64))) l yX11_tellFraction cX11_tellFraction 12 (some .boolean) 2 0 0 D k [.ref hx1, .long x, .long y] [(hx1, .inr (11, [.ref ta, .ref hw1, .ref hw12, .ref ka, .ref hr1, .ref hq, .ref hv, .ref h, .ref hn1, .ref hL, .ref li, .int (iZ ev), .int (iZ mk), .int (iZ ou), .long up, .long lo]))] (fun _ => some (.int (iZ 1))) (fun _ => True) (fun u => [(hx1, .inr (11, [.ref ta, .ref hw1, .ref hw12, .ref ka, .ref hr1, .ref hq, .ref hv, .ref h, .ref hn1, .ref hL, .ref li, .int (iZ ev), .int (iZ mk), .int (iZ (u.1 1)), .long (u.2.1 1), .long (u.2.1 2)]))]) := by
  refine MW (by decide) (Nat.le_of_ble_eq_true rfl) (fun p e s m below meth c ls A hx hb hml hr hlocks hin hts hown hKK hP hD hS hA hl => ?_)
  have hK := hKK.1
  have hl : lv_has ls 12 [(0, .ref hx1), (1, .long x), (3, .long y)] := hl
  refine lv_lload_n hx hb dX11_tellFraction_0 rfl (lv_at hl 1 rfl) ?_
  refine lv_lstore (lv' := [(5, .long x), (0, .ref hx1), (1, .long x), (3, .long y)]) hx hb dX11_tellFraction_1 hl (by decide) rfl (fun ls hl => ?_)
  refine lv_lload_n hx hb dX11_tellFraction_3 rfl (lv_at hl 3 rfl) ?_
  refine lv_lstore (lv' := [(7, .long y), (5, .long x), (0, .ref hx1), (1, .long x), (3, .long y)]) hx hb dX11_tellFraction_4 hl (by decide) rfl (fun ls hl => ?_)
  refine lv_iconst (v := iZ 0) hx hb dX11_tellFraction_6 (by decide) ?_
  refine lv_istore (lv' := [(9, .int (iZ 0)), (7, .long y), (5, .long x), (0, .ref hx1), (1, .long x), (3, .long y)]) hx hb dX11_tellFraction_7 hl (by decide) rfl (fun ls hl => ?_)
  have HL9 : ∀ (fu : Nat) (v5_9 : Int64) (v7_9 : Int64) (v9_9 : Int) (H : Heap) (locs : List Loc) (ls : Array Slot), ((128) + 2 - v9_9) < (fu : Int) → ((0 ≤ v9_9 ∧ v9_9 ≤ (128) + 1)) → va_P D vwCl [(hx1, .inr (11, [.ref ta, .ref hw1, .ref hw12, .ref ka, .ref hr1, .ref hq, .ref hv, .ref h, .ref hn1, .ref hL, .ref li, .int (iZ ev), .int (iZ mk), .int (iZ ou), .long up, .long lo]))] H → va_D A [(hx1, .inr (11, [.ref ta, .ref hw1, .ref hw12, .ref ka, .ref hr1, .ref hq, .ref hv, .ref h, .ref hn1, .ref hL, .ref li, .int (iZ ev), .int (iZ mk), .int (iZ ou), .long up, .long lo]))] → va_S A s.heap H locs → lv_has ls 12 [(9, .int (iZ v9_9)), (7, .long v7_9), (5, .long v5_9), (0, .ref hx1), (1, .long x), (3, .long y)] → W p l e (rj 2 0 0) s m [.ref hx1, .long x, .long y].toArray below meth c H locs 0 0 (MQ below (QW (σ := ((Nat → Int) × (Nat → Int64) × (Nat → Nat → Int32) × (Nat → Nat → Int64))) (fun _ => some (.int (iZ 1))) (fun _ => True) (fun u => [(hx1, .inr (11, [.ref ta, .ref hw1, .ref hw12, .ref ka, .ref hr1, .ref hq, .ref hv, .ref h, .ref hn1, .ref hL, .ref li, .int (iZ ev), .int (iZ mk), .int (iZ (u.1 1)), .long (u.2.1 1), .long (u.2.1 2)]))]) D A) [.ref hx1, .long x, .long y].toArray s 0 0 A) (F0 m 9 ls []) := by
    intro fu
    induction fu with
    | zero => intro v5_9 v7_9 v9_9 H locs ls hμ9 hi9 hP hD hS hl; exact absurd hμ9 (by omega)
    | succ fu ih9 =>
      intro v5_9 v7_9 v9_9 H locs ls hμ9 hi9 hP hD hS hl
      refine lv_iload hx hb dX11_tellFraction_9 (lv_at hl 0 rfl) ?_
      refine lv_sipush (v := iZ 128) hx hb dX11_tellFraction_11 (by decide) ?_
      refine lv_icmp_ge (tgt := 45) hx hb dX11_tellFraction_14 (by decide) (fun c_1 => ?_) (fun c_1 => ?_)
      ·
        have c_1 := (zle (x := iZ 128) (y := iZ v9_9) rfl rfl ⟨by omega, by omega⟩ ⟨by omega, by omega⟩).mp c_1
        refine lv_lconst (v := 1) hx hb dX11_tellFraction_45 rfl ?_
        refine lv_lload hx hb dX11_tellFraction_46 (lv_at hl 2 rfl) ?_
        refine va_mabs_long (rest := [.long 1]) hx hb (by rw [hml]; exact hl.1.symm) (own := RX11) hown (hts _ qm_X11_397) (hts _ qt_yJ9_abs_067f4) (hts _ qz_J9) (hts _ qc_J9_abs_067f4) (Nat.le_of_ble_eq_true rfl) (Nat.le_of_ble_eq_true rfl) (Nat.le_of_ble_eq_true rfl) (Nat.le_of_ble_eq_true rfl) dX11_tellFraction_48 ?_
        refine lv_topl (fun y_2 ey_2 => ?_)
        refine va_mmax_long (rest := []) hx hb (by rw [hml]; exact hl.1.symm) (own := RX11) hown (hts _ qm_X11_401) (hts _ qt_yJ9_max_f86c9) (hts _ qz_J9) (hts _ qc_J9_max_f86c9) (Nat.le_of_ble_eq_true rfl) (Nat.le_of_ble_eq_true rfl) (Nat.le_of_ble_eq_true rfl) (Nat.le_of_ble_eq_true rfl) dX11_tellFraction_51 ?_
        refine lv_topl (fun y_3 ey_3 => ?_)
        refine lv_lstore (lv' := [(9, .long y_3), (7, .long v7_9), (5, .long v5_9), (0, .ref hx1), (1, .long x), (3, .long y)]) hx hb dX11_tellFraction_54 hl (by decide) rfl (fun ls hl => ?_)
        refine lv_aload_n hx hb dX11_tellFraction_56 rfl (lv_at hl 3 rfl) ?_
        refine lv_lload_n hx hb dX11_tellFraction_57 rfl (lv_at hl 4 rfl) ?_
        refine lv_lload hx hb dX11_tellFraction_58 (lv_at hl 0 rfl) ?_
        refine lv_ldiv hx hb dX11_tellFraction_60 (by rw [ey_3]; exact mx1_ne _) ?_
        refine lv_topl (fun y_4 ey_4 => ?_)
        refine va_put (D := D) (ci := 11) (v := .long y_4) (ty := .long) (C := RX11) (T := TX11) (N := 16) hx hb hts iX11 tyX11 tyX11_ok nmX11 hown hK hP hD hS 0 rfl rfl 14 (by decide) (hts _ qf_X11_91) (fun _ h => h) rfl (by decide +kernel) rfl rfl (Nat.le_of_ble_eq_true rfl) dX11_tellFraction_61 (fun H locs hP hD hS => ?_)
        refine lv_aload_n hx hb dX11_tellFraction_64 rfl (lv_at hl 3 rfl) ?_
        refine lv_lload_n hx hb dX11_tellFraction_65 rfl (lv_at hl 5 rfl) ?_
        refine lv_lload hx hb dX11_tellFraction_66 (lv_at hl 0 rfl) ?_
        refine lv_ldiv hx hb dX11_tellFraction_68 (by rw [ey_3]; exact mx1_ne _) ?_
        refine lv_topl (fun y_5 ey_5 => ?_)
        refine va_put (D := D) (ci := 11) (v := .long y_5) (ty := .long) (C := RX11) (T := TX11) (N := 16) hx hb hts iX11 tyX11 tyX11_ok nmX11 hown hK hP hD hS 0 rfl rfl 15 (by decide) (hts _ qf_X11_95) (fun _ h => h) rfl (by decide +kernel) rfl rfl (Nat.le_of_ble_eq_true rfl) dX11_tellFraction_69 (fun H locs hP hD hS => ?_)
        refine lv_aload_n hx hb dX11_tellFraction_72 rfl (lv_at hl 3 rfl) ?_
        refine CWV (As := []) (rest := []) (wc := [(hx1, .inr (11, [.ref ta, .ref hw1, .ref hw12, .ref ka, .ref hr1, .ref hq, .ref hv, .ref h, .ref hn1, .ref hL, .ref li, .int (iZ ev), .int (iZ mk), .int (iZ ou), .long y_4, .long y_5]))]) (wr := []) hx hb hml hown hts hKK hP hD hS hA (k_grant l D k hx1 ta hw1 hw12 ka hr1 hq hv h hn1 hL li ev mk ou y_4 y_5) ci_X11_grant qm_X11_114 ⟨Nat.le_of_ble_eq_true rfl, Nat.le_of_ble_eq_true rfl⟩ ⟨Nat.le_of_ble_eq_true rfl, Nat.le_of_ble_eq_true rfl⟩ [0] [] rfl rfl rfl rfl rfl (by decide) 0 rfl rfl rfl hl.1 rfl (Nat.le_of_ble_eq_true rfl) dX11_tellFraction_73 (fun u_6 H locs hφ hP hD hS => ?_)
        obtain ⟨I_7, L_8, F_9, G_10⟩ := u_6
        refine W.eq (g2 := F0 m 76 ls [.int (iZ 1)]) rfl ?_
        exact EWz hx hb hr hlocks hS (fun i => [0, 0].getD i 0, fun i => [0, y_4, y_5].getD i 0, fun i => [].getD i (fun _ => 0), fun i => [].getD i (fun _ => 0)) rfl rfl trivial (hP.sub [0] rfl) (hD.sub [0] rfl rfl) dX11_tellFraction_76
      ·
        have c_1 := mt (zle (x := iZ 128) (y := iZ v9_9) rfl rfl ⟨by omega, by omega⟩ ⟨by omega, by omega⟩).mpr c_1
        refine lv_lload hx hb dX11_tellFraction_17 (lv_at hl 1 rfl) ?_
        refine lv_lconst (v := 0) hx hb dX11_tellFraction_19 rfl ?_
        refine W.lcmp hx hb dX11_tellFraction_20 ?_
        refine lv_if_eq (tgt := 45) hx hb dX11_tellFraction_21 (by decide) (fun c_12 => ?_) (fun c_12 => ?_)
        ·
          refine lv_lconst (v := 1) hx hb dX11_tellFraction_45 rfl ?_
          refine lv_lload hx hb dX11_tellFraction_46 (lv_at hl 2 rfl) ?_
          refine va_mabs_long (rest := [.long 1]) hx hb (by rw [hml]; exact hl.1.symm) (own := RX11) hown (hts _ qm_X11_397) (hts _ qt_yJ9_abs_067f4) (hts _ qz_J9) (hts _ qc_J9_abs_067f4) (Nat.le_of_ble_eq_true rfl) (Nat.le_of_ble_eq_true rfl) (Nat.le_of_ble_eq_true rfl) (Nat.le_of_ble_eq_true rfl) dX11_tellFraction_48 ?_
          refine lv_topl (fun y_13 ey_13 => ?_)
          refine va_mmax_long (rest := []) hx hb (by rw [hml]; exact hl.1.symm) (own := RX11) hown (hts _ qm_X11_401) (hts _ qt_yJ9_max_f86c9) (hts _ qz_J9) (hts _ qc_J9_max_f86c9) (Nat.le_of_ble_eq_true rfl) (Nat.le_of_ble_eq_true rfl) (Nat.le_of_ble_eq_true rfl) (Nat.le_of_ble_eq_true rfl) dX11_tellFraction_51 ?_
          refine lv_topl (fun y_14 ey_14 => ?_)
          refine lv_lstore (lv' := [(9, .long y_14), (7, .long v7_9), (5, .long v5_9), (0, .ref hx1), (1, .long x), (3, .long y)]) hx hb dX11_tellFraction_54 hl (by decide) rfl (fun ls hl => ?_)
          refine lv_aload_n hx hb dX11_tellFraction_56 rfl (lv_at hl 3 rfl) ?_
          refine lv_lload_n hx hb dX11_tellFraction_57 rfl (lv_at hl 4 rfl) ?_
          refine lv_lload hx hb dX11_tellFraction_58 (lv_at hl 0 rfl) ?_
          refine lv_ldiv hx hb dX11_tellFraction_60 (by rw [ey_14]; exact mx1_ne _) ?_
          refine lv_topl (fun y_15 ey_15 => ?_)
          refine va_put (D := D) (ci := 11) (v := .long y_15) (ty := .long) (C := RX11) (T := TX11) (N := 16) hx hb hts iX11 tyX11 tyX11_ok nmX11 hown hK hP hD hS 0 rfl rfl 14 (by decide) (hts _ qf_X11_91) (fun _ h => h) rfl (by decide +kernel) rfl rfl (Nat.le_of_ble_eq_true rfl) dX11_tellFraction_61 (fun H locs hP hD hS => ?_)
          refine lv_aload_n hx hb dX11_tellFraction_64 rfl (lv_at hl 3 rfl) ?_
          refine lv_lload_n hx hb dX11_tellFraction_65 rfl (lv_at hl 5 rfl) ?_
          refine lv_lload hx hb dX11_tellFraction_66 (lv_at hl 0 rfl) ?_
          refine lv_ldiv hx hb dX11_tellFraction_68 (by rw [ey_14]; exact mx1_ne _) ?_
          refine lv_topl (fun y_16 ey_16 => ?_)
          refine va_put (D := D) (ci := 11) (v := .long y_16) (ty := .long) (C := RX11) (T := TX11) (N := 16) hx hb hts iX11 tyX11 tyX11_ok nmX11 hown hK hP hD hS 0 rfl rfl 15 (by decide) (hts _ qf_X11_95) (fun _ h => h) rfl (by decide +kernel) rfl rfl (Nat.le_of_ble_eq_true rfl) dX11_tellFraction_69 (fun H locs hP hD hS => ?_)
          refine lv_aload_n hx hb dX11_tellFraction_72 rfl (lv_at hl 3 rfl) ?_
          refine CWV (As := []) (rest := []) (wc := [(hx1, .inr (11, [.ref ta, .ref hw1, .ref hw12, .ref ka, .ref hr1, .ref hq, .ref hv, .ref h, .ref hn1, .ref hL, .ref li, .int (iZ ev), .int (iZ mk), .int (iZ ou), .long y_15, .long y_16]))]) (wr := []) hx hb hml hown hts hKK hP hD hS hA (k_grant l D k hx1 ta hw1 hw12 ka hr1 hq hv h hn1 hL li ev mk ou y_15 y_16) ci_X11_grant qm_X11_114 ⟨Nat.le_of_ble_eq_true rfl, Nat.le_of_ble_eq_true rfl⟩ ⟨Nat.le_of_ble_eq_true rfl, Nat.le_of_ble_eq_true rfl⟩ [0] [] rfl rfl rfl rfl rfl (by decide) 0 rfl rfl rfl hl.1 rfl (Nat.le_of_ble_eq_true rfl) dX11_tellFraction_73 (fun u_17 H locs hφ hP hD hS => ?_)
          obtain ⟨I_18, L_19, F_20, G_21⟩ := u_17
          refine W.eq (g2 := F0 m 76 ls [.int (iZ 1)]) rfl ?_
          exact EWz hx hb hr hlocks hS (fun i => [0, 0].getD i 0, fun i => [0, y_15, y_16].getD i 0, fun i => [].getD i (fun _ => 0), fun i => [].getD i (fun _ => 0)) rfl rfl trivial (hP.sub [0] rfl) (hD.sub [0] rfl rfl) dX11_tellFraction_76
        ·
          refine lv_lload hx hb dX11_tellFraction_24 (lv_at hl 2 rfl) ?_
          refine lv_lload hx hb dX11_tellFraction_26 (lv_at hl 1 rfl) ?_
          refine lv_lrem hx hb dX11_tellFraction_28 (fun h => c_12 (lgc_eq.mpr h)) ?_
          refine lv_topl (fun y_23 ey_23 => ?_)
          refine lv_lstore (lv' := [(10, .long y_23), (9, .int (iZ v9_9)), (7, .long v7_9), (5, .long v5_9), (0, .ref hx1), (1, .long x), (3, .long y)]) hx hb dX11_tellFraction_29 hl (by decide) rfl (fun ls hl => ?_)
          refine lv_lload hx hb dX11_tellFraction_31 (lv_at hl 2 rfl) ?_
          refine lv_lstore (lv' := [(5, .long v7_9), (10, .long y_23), (9, .int (iZ v9_9)), (7, .long v7_9), (0, .ref hx1), (1, .long x), (3, .long y)]) hx hb dX11_tellFraction_33 hl (by decide) rfl (fun ls hl => ?_)
          refine lv_lload hx hb dX11_tellFraction_35 (lv_at hl 1 rfl) ?_
          refine lv_lstore (lv' := [(7, .long y_23), (5, .long v7_9), (10, .long y_23), (9, .int (iZ v9_9)), (0, .ref hx1), (1, .long x), (3, .long y)]) hx hb dX11_tellFraction_37 hl (by decide) rfl (fun ls hl => ?_)
          refine lv_iinc (v := iZ (v9_9 + 1)) (lv' := [(9, .int (iZ (v9_9 + 1))), (7, .long y_23), (5, .long v7_9), (10, .long y_23), (0, .ref hx1), (1, .long x), (3, .long y)]) hx hb dX11_tellFraction_39 hl (k := 3) rfl (iZ_add v9_9 1) (by decide) rfl (fun ls hl => ?_)
          refine lv_goto (tgt := 9) hx hb dX11_tellFraction_42 (by decide) ?_
          exact ih9  v7_9 y_23 (v9_9 + 1) _ _ _ (by omega) (show (0 ≤ (v9_9 + 1) ∧ (v9_9 + 1) ≤ (128) + 1) from ⟨by omega, by omega⟩) (hP.sub [0] rfl) (hD.sub [0] rfl rfl) hS (lv_sub hl [0, 1, 2, 4, 5, 6] rfl)
  exact HL9 131 x y 0 _ _ _ (by omega) (show (0 ≤ 0 ∧ 0 ≤ (128) + 1) from ⟨by omega, by omega⟩) (hP.sub [0] rfl) (hD.sub [0] rfl rfl) hS (lv_sub hl [0, 1, 2, 3, 4, 5] rfl)
set_option maxHeartbeats 4000000 in
set_option maxRecDepth 100000 in
theorem p_meanPrice (l : Launch) (D : va_G) (k : Nat → ClassId) (hx1 : Nat) (ta : Nat) (hw1 : Nat) (hw12 : Nat) (ka : Nat) (hr1 : Nat) (hq : Nat) (hv : Nat) (h : Nat) (hn1 : Nat) (hL : Nat) (li : Nat) (ev : Int) (mk : Int) (ou : Int) (up : Int64) (lo : Int64) (fs : List Value) (hs : Nat) (hf : Nat) (hg : Nat) (hc : Nat) (hy : Nat) (n : Int) (ni : Int) (lw : Int) (f : Nat → Int32) (g : Nat → Int32) (x1 : Int) (x2 : Int) (x3 : Int) (f1 : fs[1]? = some (.ref hf)) (f2 : fs[2]? = some (.ref hg)) (f3 : fs[3]? = some (.int (iZ n))) (f4 : fs[4]? = some (.int (iZ ni))) (f5 : fs[5]? = some (.int (iZ lw))) (hn : n ≤ 6) (hx0 : FXI f n) (hni : 0 ≤ ni ∧ ni ≤ 8) (hn0 : 0 ≤ n) (hlw : -2147483648 ≤ lw ∧ lw < 2147483648) (h9x1 : -2147483648 ≤ x1 ∧ x1 < 2147483648) (h9x2 : -2147483648 ≤ x2 ∧ x2 < 2147483648) (h9x3 : -2147483648 ≤ x3 ∧ x3 < 2147483648) : WD (σ := ((Nat → Int) × (Nat → Int64) × (Nat → Nat → Int32) × (Nat → Nat → Int64))) l yX11_meanPrice cX11_meanPrice 8 (some .boolean) 3 0 0 D k [.ref hx1, .int (iZ x1), .int (iZ x2), .int (iZ x3)] [(hx1, .inr (11, [.ref ta, .ref hw1, .ref hw12, .ref ka, .ref hr1, .ref hq, .ref hv, .ref h, .ref hn1, .ref hL, .ref li, .int (iZ ev), .int (iZ mk), .int (iZ ou), .long up, .long lo])), (hw1, .inr (8, [.ref hs, .ref hc, .ref hy])), (hs, .inr (5, fs)), (hf, .inl (k 1, 36, .inl f)), (hg, .inl (k 1, 32, .inl g))] (fun u => some (.int (iZ (u.1 0)))) (fun _ => True) (fun u => [(hx1, .inr (11, [.ref ta, .ref hw1, .ref hw12, .ref ka, .ref hr1, .ref hq, .ref hv, .ref h, .ref hn1, .ref hL, .ref li, .int (iZ ev), .int (iZ mk), .int (iZ (u.1 1)), .long (u.2.1 1), .long (u.2.1 2)])), (hw1, .inr (8, [.ref hs, .ref hc, .ref hy])), (hs, .inr (5, fs)), (hf, .inl (k 1, 36, .inl f)), (hg, .inl (k 1, 32, .inl g))]) := by
  refine MW (by decide) (Nat.le_of_ble_eq_true rfl) (fun p e s m below meth c ls A hx hb hml hr hlocks hin hts hown hKK hP hD hS hA hl => ?_)
  have hK := hKK.1
  have hl : lv_has ls 8 [(0, .ref hx1), (1, .int (iZ x1)), (2, .int (iZ x2)), (3, .int (iZ x3))] := hl
  refine lv_iload_n hx hb dX11_meanPrice_0 rfl (lv_at hl 2 rfl) ?_
  refine lv_sipush (v := iZ 500) hx hb dX11_meanPrice_1 (by decide) ?_
  refine CPS (As := [.int (iZ x2), .int (iZ 500)]) (rest := []) hx hb hml hown hts hKK (hP.sub (ws' := []) [] rfl) (k_isWithin l D k x2 500 ⟨by omega, by omega⟩ ⟨by omega, by omega⟩) ci_X11_isWithin qm_X11_103 ⟨Nat.le_of_ble_eq_true rfl, Nat.le_of_ble_eq_true rfl⟩ ⟨Nat.le_of_ble_eq_true rfl, Nat.le_of_ble_eq_true rfl⟩ rfl hl.1 rfl (Nat.le_of_ble_eq_true rfl) dX11_meanPrice_4 (fun z_1 hz_1 => ?_)
  rcases hz_1 with ⟨qz_1, hz_1⟩ | ⟨qz_1, hz_1⟩
  ·
    subst qz_1
    refine lv_if_eq (tgt := 29) hx hb dX11_meanPrice_7 (by decide) (fun c => absurd c (by decide)) (fun _ => ?_)
    refine lv_iload_n hx hb dX11_meanPrice_10 rfl (lv_at hl 3 rfl) ?_
    refine lv_sipush (v := iZ 500) hx hb dX11_meanPrice_11 (by decide) ?_
    refine CPS (As := [.int (iZ x3), .int (iZ 500)]) (rest := []) hx hb hml hown hts hKK (hP.sub (ws' := []) [] rfl) (k_isWithin l D k x3 500 ⟨by omega, by omega⟩ ⟨by omega, by omega⟩) ci_X11_isWithin qm_X11_103 ⟨Nat.le_of_ble_eq_true rfl, Nat.le_of_ble_eq_true rfl⟩ ⟨Nat.le_of_ble_eq_true rfl, Nat.le_of_ble_eq_true rfl⟩ rfl hl.1 rfl (Nat.le_of_ble_eq_true rfl) dX11_meanPrice_14 (fun z_3 hz_3 => ?_)
    rcases hz_3 with ⟨qz_3, hz_3⟩ | ⟨qz_3, hz_3⟩
    ·
      subst qz_3
      refine lv_if_eq (tgt := 29) hx hb dX11_meanPrice_17 (by decide) (fun c => absurd c (by decide)) (fun _ => ?_)
      refine lv_iload_n hx hb dX11_meanPrice_20 rfl (lv_at hl 2 rfl) ?_
      refine lv_iload_n hx hb dX11_meanPrice_21 rfl (lv_at hl 3 rfl) ?_
      refine lv_icmp_gt (tgt := 29) hx hb dX11_meanPrice_22 (by decide) (fun c_5 => ?_) (fun c_5 => ?_)
      ·
        have c_5 := (zlt (x := iZ x3) (y := iZ x2) rfl rfl ⟨by omega, by omega⟩ ⟨by omega, by omega⟩).mp c_5
        refine lv_iconst (v := iZ 0) hx hb dX11_meanPrice_29 (by decide) ?_
        refine lv_istore (lv' := [(4, .int (iZ 0)), (0, .ref hx1), (1, .int (iZ x1)), (2, .int (iZ x2)), (3, .int (iZ x3))]) hx hb dX11_meanPrice_30 hl (by decide) rfl (fun ls hl => ?_)
        refine lv_aload_n hx hb dX11_meanPrice_32 rfl (lv_at hl 1 rfl) ?_
        refine lv_iload_n hx hb dX11_meanPrice_33 rfl (lv_at hl 2 rfl) ?_
        refine CPV (As := [.int (iZ x1)]) (rest := []) hx hb hml hown hts hKK (hP.sub (ws' := [(hx1, .inr (11, [.ref ta, .ref hw1, .ref hw12, .ref ka, .ref hr1, .ref hq, .ref hv, .ref h, .ref hn1, .ref hL, .ref li, .int (iZ ev), .int (iZ mk), .int (iZ ou), .long up, .long lo])), (hw1, .inr (8, [.ref hs, .ref hc, .ref hy])), (hs, .inr (5, fs))]) [0, 1, 2] rfl) (k_isRock l D k hx1 ta hw1 hw12 ka hr1 hq hv h hn1 hL li ev mk ou up lo fs hs hc hy n x1 f3 ⟨by omega, by omega⟩ ⟨by omega, by omega⟩) ci_X11_isRock qm_X11_221 ⟨Nat.le_of_ble_eq_true rfl, Nat.le_of_ble_eq_true rfl⟩ ⟨Nat.le_of_ble_eq_true rfl, Nat.le_of_ble_eq_true rfl⟩ 0 rfl rfl rfl hl.1 rfl (Nat.le_of_ble_eq_true rfl) dX11_meanPrice_34 (fun z_6 hz_6 => ?_)
        rcases hz_6 with ⟨qz_6, hz_6⟩ | ⟨qz_6, hz_6⟩
        ·
          subst qz_6
          refine lv_if_eq (tgt := 45) hx hb dX11_meanPrice_37 (by decide) (fun c => absurd c (by decide)) (fun _ => ?_)
          refine lv_iload hx hb dX11_meanPrice_40 (lv_at hl 0 rfl) ?_
          refine lv_if_ne (tgt := 51) hx hb dX11_meanPrice_42 (by decide) (fun c => absurd (by decide) c) (fun _ => ?_)
          refine lv_aload_n hx hb dX11_meanPrice_45 rfl (lv_at hl 1 rfl) ?_
          refine lv_iconst (v := iZ 1) hx hb dX11_meanPrice_46 (by decide) ?_
          refine CWV (As := [.int (iZ 1)]) (rest := []) (wc := [(hx1, .inr (11, [.ref ta, .ref hw1, .ref hw12, .ref ka, .ref hr1, .ref hq, .ref hv, .ref h, .ref hn1, .ref hL, .ref li, .int (iZ ev), .int (iZ mk), .int (iZ ou), .long up, .long lo]))]) (wr := [(hw1, .inr (8, [.ref hs, .ref hc, .ref hy])), (hs, .inr (5, fs)), (hf, .inl (k 1, 36, .inl f)), (hg, .inl (k 1, 32, .inl g))]) hx hb hml hown hts hKK hP hD hS hA (k_deny l D k hx1 ta hw1 hw12 ka hr1 hq hv h hn1 hL li ev mk ou up lo 1) ci_X11_deny qm_X11_107 ⟨Nat.le_of_ble_eq_true rfl, Nat.le_of_ble_eq_true rfl⟩ ⟨Nat.le_of_ble_eq_true rfl, Nat.le_of_ble_eq_true rfl⟩ [0] [1, 2, 3, 4] rfl rfl rfl rfl rfl (by decide) 0 rfl rfl rfl hl.1 rfl (Nat.le_of_ble_eq_true rfl) dX11_meanPrice_47 (fun u_9 H locs hφ hP hD hS => ?_)
          obtain ⟨I_10, L_11, F_12, G_13⟩ := u_9
          refine W.eq (g2 := F0 m 50 ls [.int (iZ 0)]) rfl ?_
          exact EWz hx hb hr hlocks hS (fun i => [0, 1].getD i 0, fun i => [0, up, lo].getD i 0, fun i => [].getD i (fun _ => 0), fun i => [].getD i (fun _ => 0)) rfl rfl trivial (hP.sub [4, 0, 1, 2, 3] rfl) (hD.sub [4, 0, 1, 2, 3] rfl rfl) dX11_meanPrice_50
        ·
          subst qz_6
          refine lv_if_eq (tgt := 45) hx hb dX11_meanPrice_37 (by decide) (fun _ => ?_) (fun c => absurd (by decide) c)
          refine lv_aload_n hx hb dX11_meanPrice_45 rfl (lv_at hl 1 rfl) ?_
          refine lv_iconst (v := iZ 1) hx hb dX11_meanPrice_46 (by decide) ?_
          refine CWV (As := [.int (iZ 1)]) (rest := []) (wc := [(hx1, .inr (11, [.ref ta, .ref hw1, .ref hw12, .ref ka, .ref hr1, .ref hq, .ref hv, .ref h, .ref hn1, .ref hL, .ref li, .int (iZ ev), .int (iZ mk), .int (iZ ou), .long up, .long lo]))]) (wr := [(hw1, .inr (8, [.ref hs, .ref hc, .ref hy])), (hs, .inr (5, fs)), (hf, .inl (k 1, 36, .inl f)), (hg, .inl (k 1, 32, .inl g))]) hx hb hml hown hts hKK hP hD hS hA (k_deny l D k hx1 ta hw1 hw12 ka hr1 hq hv h hn1 hL li ev mk ou up lo 1) ci_X11_deny qm_X11_107 ⟨Nat.le_of_ble_eq_true rfl, Nat.le_of_ble_eq_true rfl⟩ ⟨Nat.le_of_ble_eq_true rfl, Nat.le_of_ble_eq_true rfl⟩ [0] [1, 2, 3, 4] rfl rfl rfl rfl rfl (by decide) 0 rfl rfl rfl hl.1 rfl (Nat.le_of_ble_eq_true rfl) dX11_meanPrice_47 (fun u_16 H locs hφ hP hD hS => ?_)
          obtain ⟨I_17, L_18, F_19, G_20⟩ := u_16
          refine W.eq (g2 := F0 m 50 ls [.int (iZ 0)]) rfl ?_
          exact EWz hx hb hr hlocks hS (fun i => [0, 1].getD i 0, fun i => [0, up, lo].getD i 0, fun i => [].getD i (fun _ => 0), fun i => [].getD i (fun _ => 0)) rfl rfl trivial (hP.sub [4, 0, 1, 2, 3] rfl) (hD.sub [4, 0, 1, 2, 3] rfl rfl) dX11_meanPrice_50
      ·
        have c_5 := mt (zlt (x := iZ x3) (y := iZ x2) rfl rfl ⟨by omega, by omega⟩ ⟨by omega, by omega⟩).mpr c_5
        refine lv_iconst (v := iZ 1) hx hb dX11_meanPrice_25 (by decide) ?_
        refine lv_goto (tgt := 30) hx hb dX11_meanPrice_26 (by decide) ?_
        refine lv_istore (lv' := [(4, .int (iZ 1)), (0, .ref hx1), (1, .int (iZ x1)), (2, .int (iZ x2)), (3, .int (iZ x3))]) hx hb dX11_meanPrice_30 hl (by decide) rfl (fun ls hl => ?_)
        refine lv_aload_n hx hb dX11_meanPrice_32 rfl (lv_at hl 1 rfl) ?_
        refine lv_iload_n hx hb dX11_meanPrice_33 rfl (lv_at hl 2 rfl) ?_
        refine CPV (As := [.int (iZ x1)]) (rest := []) hx hb hml hown hts hKK (hP.sub (ws' := [(hx1, .inr (11, [.ref ta, .ref hw1, .ref hw12, .ref ka, .ref hr1, .ref hq, .ref hv, .ref h, .ref hn1, .ref hL, .ref li, .int (iZ ev), .int (iZ mk), .int (iZ ou), .long up, .long lo])), (hw1, .inr (8, [.ref hs, .ref hc, .ref hy])), (hs, .inr (5, fs))]) [0, 1, 2] rfl) (k_isRock l D k hx1 ta hw1 hw12 ka hr1 hq hv h hn1 hL li ev mk ou up lo fs hs hc hy n x1 f3 ⟨by omega, by omega⟩ ⟨by omega, by omega⟩) ci_X11_isRock qm_X11_221 ⟨Nat.le_of_ble_eq_true rfl, Nat.le_of_ble_eq_true rfl⟩ ⟨Nat.le_of_ble_eq_true rfl, Nat.le_of_ble_eq_true rfl⟩ 0 rfl rfl rfl hl.1 rfl (Nat.le_of_ble_eq_true rfl) dX11_meanPrice_34 (fun z_22 hz_22 => ?_)
        rcases hz_22 with ⟨qz_22, hz_22⟩ | ⟨qz_22, hz_22⟩
        ·
          subst qz_22
          refine lv_if_eq (tgt := 45) hx hb dX11_meanPrice_37 (by decide) (fun c => absurd c (by decide)) (fun _ => ?_)
          refine lv_iload hx hb dX11_meanPrice_40 (lv_at hl 0 rfl) ?_
          refine lv_if_ne (tgt := 51) hx hb dX11_meanPrice_42 (by decide) (fun _ => ?_) (fun c => absurd c (by decide))
          refine lv_lconst (v := 0) hx hb dX11_meanPrice_51 rfl ?_
          refine lv_lstore (lv' := [(5, .long 0), (4, .int (iZ 1)), (0, .ref hx1), (1, .int (iZ x1)), (2, .int (iZ x2)), (3, .int (iZ x3))]) hx hb dX11_meanPrice_52 hl (by decide) rfl (fun ls hl => ?_)
          refine lv_iload_n hx hb dX11_meanPrice_54 rfl (lv_at hl 4 rfl) ?_
          refine lv_istore (lv' := [(7, .int (iZ x2)), (5, .long 0), (4, .int (iZ 1)), (0, .ref hx1), (1, .int (iZ x1)), (2, .int (iZ x2)), (3, .int (iZ x3))]) hx hb dX11_meanPrice_55 hl (by decide) rfl (fun ls hl => ?_)
          have HL57 : ∀ (fu : Nat) (v5_57 : Int64) (v7_57 : Int) (H : Heap) (locs : List Loc) (ls : Array Slot), ((x3) + 2 - v7_57) < (fu : Int) → ((x2 ≤ v7_57 ∧ v7_57 ≤ (x3) + 1)) → va_P D vwCl [(hx1, .inr (11, [.ref ta, .ref hw1, .ref hw12, .ref ka, .ref hr1, .ref hq, .ref hv, .ref h, .ref hn1, .ref hL, .ref li, .int (iZ ev), .int (iZ mk), .int (iZ ou), .long up, .long lo])), (hw1, .inr (8, [.ref hs, .ref hc, .ref hy])), (hs, .inr (5, fs)), (hf, .inl (k 1, 36, .inl f)), (hg, .inl (k 1, 32, .inl g))] H → va_D A [(hx1, .inr (11, [.ref ta, .ref hw1, .ref hw12, .ref ka, .ref hr1, .ref hq, .ref hv, .ref h, .ref hn1, .ref hL, .ref li, .int (iZ ev), .int (iZ mk), .int (iZ ou), .long up, .long lo])), (hw1, .inr (8, [.ref hs, .ref hc, .ref hy])), (hs, .inr (5, fs)), (hf, .inl (k 1, 36, .inl f)), (hg, .inl (k 1, 32, .inl g))] → va_S A s.heap H locs → lv_has ls 8 [(7, .int (iZ v7_57)), (5, .long v5_57), (4, .int (iZ 1)), (0, .ref hx1), (1, .int (iZ x1)), (2, .int (iZ x2)), (3, .int (iZ x3))] → W p l e (rj 3 0 0) s m [.ref hx1, .int (iZ x1), .int (iZ x2), .int (iZ x3)].toArray below meth c H locs 0 0 (MQ below (QW (σ := ((Nat → Int) × (Nat → Int64) × (Nat → Nat → Int32) × (Nat → Nat → Int64))) (fun u => some (.int (iZ (u.1 0)))) (fun _ => True) (fun u => [(hx1, .inr (11, [.ref ta, .ref hw1, .ref hw12, .ref ka, .ref hr1, .ref hq, .ref hv, .ref h, .ref hn1, .ref hL, .ref li, .int (iZ ev), .int (iZ mk), .int (iZ (u.1 1)), .long (u.2.1 1), .long (u.2.1 2)])), (hw1, .inr (8, [.ref hs, .ref hc, .ref hy])), (hs, .inr (5, fs)), (hf, .inl (k 1, 36, .inl f)), (hg, .inl (k 1, 32, .inl g))]) D A) [.ref hx1, .int (iZ x1), .int (iZ x2), .int (iZ x3)].toArray s 0 0 A) (F0 m 57 ls []) := by
            intro fu
            induction fu with
            | zero => intro v5_57 v7_57 H locs ls hμ57 hi57 hP hD hS hl; exact absurd hμ57 (by omega)
            | succ fu ih57 =>
              intro v5_57 v7_57 H locs ls hμ57 hi57 hP hD hS hl
              refine lv_iload hx hb dX11_meanPrice_57 (lv_at hl 0 rfl) ?_
              refine lv_iload_n hx hb dX11_meanPrice_59 rfl (lv_at hl 6 rfl) ?_
              refine lv_icmp_gt (tgt := 88) hx hb dX11_meanPrice_60 (by decide) (fun c_25 => ?_) (fun c_25 => ?_)
              ·
                have c_25 := (zlt (x := iZ x3) (y := iZ v7_57) rfl rfl ⟨by omega, by omega⟩ ⟨by omega, by omega⟩).mp c_25
                refine lv_aload_n hx hb dX11_meanPrice_88 rfl (lv_at hl 3 rfl) ?_
                refine lv_lload hx hb dX11_meanPrice_89 (lv_at hl 1 rfl) ?_
                refine lv_iload_n hx hb dX11_meanPrice_91 rfl (lv_at hl 6 rfl) ?_
                refine lv_iload_n hx hb dX11_meanPrice_92 rfl (lv_at hl 5 rfl) ?_
                refine lv_isub hx hb dX11_meanPrice_93 ?_
                refine lv_topi (fun x_26 ex_26 => ?_)
                obtain rfl : x_26 = iZ (x3 - x2) := ex_26.trans (iZ_sub x3 x2)
                refine lv_iconst (v := iZ 1) hx hb dX11_meanPrice_94 (by decide) ?_
                refine lv_iadd hx hb dX11_meanPrice_95 ?_
                refine lv_topi (fun x_27 ex_27 => ?_)
                obtain rfl : x_27 = iZ ((x3 - x2) + 1) := ex_27.trans (iZ_add (x3 - x2) 1)
                refine lv_i2l (v := (iZ ((x3 - x2) + 1)).toInt64) hx hb dX11_meanPrice_96 rfl ?_
                refine CWV (As := [.long v5_57, .long ((iZ ((x3 - x2) + 1)).toInt64)]) (rest := []) (wc := [(hx1, .inr (11, [.ref ta, .ref hw1, .ref hw12, .ref ka, .ref hr1, .ref hq, .ref hv, .ref h, .ref hn1, .ref hL, .ref li, .int (iZ ev), .int (iZ mk), .int (iZ ou), .long up, .long lo]))]) (wr := [(hw1, .inr (8, [.ref hs, .ref hc, .ref hy])), (hs, .inr (5, fs)), (hf, .inl (k 1, 36, .inl f)), (hg, .inl (k 1, 32, .inl g))]) hx hb hml hown hts hKK hP hD hS hA (k_tellFraction l D k hx1 ta hw1 hw12 ka hr1 hq hv h hn1 hL li ev mk ou up lo v5_57 ((iZ ((x3 - x2) + 1)).toInt64)) ci_X11_tellFraction qm_X11_343 ⟨Nat.le_of_ble_eq_true rfl, Nat.le_of_ble_eq_true rfl⟩ ⟨Nat.le_of_ble_eq_true rfl, Nat.le_of_ble_eq_true rfl⟩ [0] [1, 2, 3, 4] rfl rfl rfl rfl rfl (by decide) 0 rfl rfl rfl hl.1 rfl (Nat.le_of_ble_eq_true rfl) dX11_meanPrice_97 (fun u_28 H locs hφ hP hD hS => ?_)
                obtain ⟨I_29, L_30, F_31, G_32⟩ := u_28
                refine W.eq (g2 := F0 m 100 ls [.int (iZ 1)]) rfl ?_
                exact EWz hx hb hr hlocks hS (fun i => [1, (I_29 1)].getD i 0, fun i => [0, (L_30 1), (L_30 2)].getD i 0, fun i => [].getD i (fun _ => 0), fun i => [].getD i (fun _ => 0)) rfl rfl trivial (hP.sub [4, 0, 1, 2, 3] rfl) (hD.sub [4, 0, 1, 2, 3] rfl rfl) dX11_meanPrice_100
              ·
                have c_25 := mt (zlt (x := iZ x3) (y := iZ v7_57) rfl rfl ⟨by omega, by omega⟩ ⟨by omega, by omega⟩).mpr c_25
                refine lv_lload hx hb dX11_meanPrice_63 (lv_at hl 1 rfl) ?_
                refine lv_aload_n hx hb dX11_meanPrice_65 rfl (lv_at hl 3 rfl) ?_
                refine va_get (D := D) (ci := 11) (v := .ref hw1) (C := RX11) (T := TX11) (N := 16) hx hb hts iX11 hown hK hP 0 rfl rfl 1 (by decide) (hts _ qf_X11_18) (fun _ h => h) rfl dX11_meanPrice_66 ?_
                refine va_get (D := D) (ci := 8) (v := .ref hs) (C := RX8) (T := TX8) (N := 3) hx hb hts iX8 hown hK hP 1 rfl rfl 0 (by decide) (hts _ qf_X11_54) (fun _ h => h) rfl dX11_meanPrice_69 ?_
                refine lv_iload_n hx hb dX11_meanPrice_72 rfl (lv_at hl 4 rfl) ?_
                refine lv_iload hx hb dX11_meanPrice_73 (lv_at hl 0 rfl) ?_
                refine CRV (As := [.int (iZ x1), .int (iZ v7_57)]) (rest := [.long v5_57]) hx hb hml hown hts hKK (hP.sub (ws' := [(hs, .inr (5, fs)), (hf, .inl (k 1, 36, .inl f))]) [2, 3] rfl) (k_price l D k hs hf fs f1 f n hn hx0 x1 v7_57 ⟨by omega, by omega⟩ ⟨by omega, by omega⟩) ci_X5_priceIn qm_X11_337 ⟨Nat.le_of_ble_eq_true rfl, Nat.le_of_ble_eq_true rfl⟩ ⟨Nat.le_of_ble_eq_true rfl, Nat.le_of_ble_eq_true rfl⟩ 0 rfl rfl rfl hl.1 rfl (Nat.le_of_ble_eq_true rfl) dX11_meanPrice_75 ?_
                have hp_h_34 := pr_rg (w := v7_57) hx0 (a := x1) ⟨by omega, by omega⟩
                refine lv_i2l (v := (iZ (pr f x1 v7_57)).toInt64) hx hb dX11_meanPrice_78 rfl ?_
                refine lv_ladd hx hb dX11_meanPrice_79 ?_
                refine lv_topl (fun y_35 ey_35 => ?_)
                refine lv_lstore (lv' := [(5, .long y_35), (7, .int (iZ v7_57)), (4, .int (iZ 1)), (0, .ref hx1), (1, .int (iZ x1)), (2, .int (iZ x2)), (3, .int (iZ x3))]) hx hb dX11_meanPrice_80 hl (by decide) rfl (fun ls hl => ?_)
                refine lv_iinc (v := iZ (v7_57 + 1)) (lv' := [(7, .int (iZ (v7_57 + 1))), (5, .long y_35), (4, .int (iZ 1)), (0, .ref hx1), (1, .int (iZ x1)), (2, .int (iZ x2)), (3, .int (iZ x3))]) hx hb dX11_meanPrice_82 hl (k := 1) rfl (iZ_add v7_57 1) (by decide) rfl (fun ls hl => ?_)
                refine lv_goto (tgt := 57) hx hb dX11_meanPrice_85 (by decide) ?_
                exact ih57  y_35 (v7_57 + 1) _ _ _ (by omega) (show (x2 ≤ (v7_57 + 1) ∧ (v7_57 + 1) ≤ (x3) + 1) from ⟨by omega, by omega⟩) (hP.sub [0, 1, 2, 3, 4] rfl) (hD.sub [0, 1, 2, 3, 4] rfl rfl) hS (lv_sub hl [0, 1, 2, 3, 4, 5, 6] rfl)
          exact HL57 503 0 x2 _ _ _ (by omega) (show (x2 ≤ x2 ∧ x2 ≤ (x3) + 1) from ⟨by omega, by omega⟩) (hP.sub [0, 1, 2, 3, 4] rfl) (hD.sub [0, 1, 2, 3, 4] rfl rfl) hS (lv_sub hl [0, 1, 2, 3, 4, 5, 6] rfl)
        ·
          subst qz_22
          refine lv_if_eq (tgt := 45) hx hb dX11_meanPrice_37 (by decide) (fun _ => ?_) (fun c => absurd (by decide) c)
          refine lv_aload_n hx hb dX11_meanPrice_45 rfl (lv_at hl 1 rfl) ?_
          refine lv_iconst (v := iZ 1) hx hb dX11_meanPrice_46 (by decide) ?_
          refine CWV (As := [.int (iZ 1)]) (rest := []) (wc := [(hx1, .inr (11, [.ref ta, .ref hw1, .ref hw12, .ref ka, .ref hr1, .ref hq, .ref hv, .ref h, .ref hn1, .ref hL, .ref li, .int (iZ ev), .int (iZ mk), .int (iZ ou), .long up, .long lo]))]) (wr := [(hw1, .inr (8, [.ref hs, .ref hc, .ref hy])), (hs, .inr (5, fs)), (hf, .inl (k 1, 36, .inl f)), (hg, .inl (k 1, 32, .inl g))]) hx hb hml hown hts hKK hP hD hS hA (k_deny l D k hx1 ta hw1 hw12 ka hr1 hq hv h hn1 hL li ev mk ou up lo 1) ci_X11_deny qm_X11_107 ⟨Nat.le_of_ble_eq_true rfl, Nat.le_of_ble_eq_true rfl⟩ ⟨Nat.le_of_ble_eq_true rfl, Nat.le_of_ble_eq_true rfl⟩ [0] [1, 2, 3, 4] rfl rfl rfl rfl rfl (by decide) 0 rfl rfl rfl hl.1 rfl (Nat.le_of_ble_eq_true rfl) dX11_meanPrice_47 (fun u_37 H locs hφ hP hD hS => ?_)
          obtain ⟨I_38, L_39, F_40, G_41⟩ := u_37
          refine W.eq (g2 := F0 m 50 ls [.int (iZ 0)]) rfl ?_
          exact EWz hx hb hr hlocks hS (fun i => [0, 1].getD i 0, fun i => [0, up, lo].getD i 0, fun i => [].getD i (fun _ => 0), fun i => [].getD i (fun _ => 0)) rfl rfl trivial (hP.sub [4, 0, 1, 2, 3] rfl) (hD.sub [4, 0, 1, 2, 3] rfl rfl) dX11_meanPrice_50
    ·
      subst qz_3
      refine lv_if_eq (tgt := 29) hx hb dX11_meanPrice_17 (by decide) (fun _ => ?_) (fun c => absurd (by decide) c)
      refine lv_iconst (v := iZ 0) hx hb dX11_meanPrice_29 (by decide) ?_
      refine lv_istore (lv' := [(4, .int (iZ 0)), (0, .ref hx1), (1, .int (iZ x1)), (2, .int (iZ x2)), (3, .int (iZ x3))]) hx hb dX11_meanPrice_30 hl (by decide) rfl (fun ls hl => ?_)
      refine lv_aload_n hx hb dX11_meanPrice_32 rfl (lv_at hl 1 rfl) ?_
      refine lv_iload_n hx hb dX11_meanPrice_33 rfl (lv_at hl 2 rfl) ?_
      refine CPV (As := [.int (iZ x1)]) (rest := []) hx hb hml hown hts hKK (hP.sub (ws' := [(hx1, .inr (11, [.ref ta, .ref hw1, .ref hw12, .ref ka, .ref hr1, .ref hq, .ref hv, .ref h, .ref hn1, .ref hL, .ref li, .int (iZ ev), .int (iZ mk), .int (iZ ou), .long up, .long lo])), (hw1, .inr (8, [.ref hs, .ref hc, .ref hy])), (hs, .inr (5, fs))]) [0, 1, 2] rfl) (k_isRock l D k hx1 ta hw1 hw12 ka hr1 hq hv h hn1 hL li ev mk ou up lo fs hs hc hy n x1 f3 ⟨by omega, by omega⟩ ⟨by omega, by omega⟩) ci_X11_isRock qm_X11_221 ⟨Nat.le_of_ble_eq_true rfl, Nat.le_of_ble_eq_true rfl⟩ ⟨Nat.le_of_ble_eq_true rfl, Nat.le_of_ble_eq_true rfl⟩ 0 rfl rfl rfl hl.1 rfl (Nat.le_of_ble_eq_true rfl) dX11_meanPrice_34 (fun z_44 hz_44 => ?_)
      rcases hz_44 with ⟨qz_44, hz_44⟩ | ⟨qz_44, hz_44⟩
      ·
        subst qz_44
        refine lv_if_eq (tgt := 45) hx hb dX11_meanPrice_37 (by decide) (fun c => absurd c (by decide)) (fun _ => ?_)
        refine lv_iload hx hb dX11_meanPrice_40 (lv_at hl 0 rfl) ?_
        refine lv_if_ne (tgt := 51) hx hb dX11_meanPrice_42 (by decide) (fun c => absurd (by decide) c) (fun _ => ?_)
        refine lv_aload_n hx hb dX11_meanPrice_45 rfl (lv_at hl 1 rfl) ?_
        refine lv_iconst (v := iZ 1) hx hb dX11_meanPrice_46 (by decide) ?_
        refine CWV (As := [.int (iZ 1)]) (rest := []) (wc := [(hx1, .inr (11, [.ref ta, .ref hw1, .ref hw12, .ref ka, .ref hr1, .ref hq, .ref hv, .ref h, .ref hn1, .ref hL, .ref li, .int (iZ ev), .int (iZ mk), .int (iZ ou), .long up, .long lo]))]) (wr := [(hw1, .inr (8, [.ref hs, .ref hc, .ref hy])), (hs, .inr (5, fs)), (hf, .inl (k 1, 36, .inl f)), (hg, .inl (k 1, 32, .inl g))]) hx hb hml hown hts hKK hP hD hS hA (k_deny l D k hx1 ta hw1 hw12 ka hr1 hq hv h hn1 hL li ev mk ou up lo 1) ci_X11_deny qm_X11_107 ⟨Nat.le_of_ble_eq_true rfl, Nat.le_of_ble_eq_true rfl⟩ ⟨Nat.le_of_ble_eq_true rfl, Nat.le_of_ble_eq_true rfl⟩ [0] [1, 2, 3, 4] rfl rfl rfl rfl rfl (by decide) 0 rfl rfl rfl hl.1 rfl (Nat.le_of_ble_eq_true rfl) dX11_meanPrice_47 (fun u_47 H locs hφ hP hD hS => ?_)
        obtain ⟨I_48, L_49, F_50, G_51⟩ := u_47
        refine W.eq (g2 := F0 m 50 ls [.int (iZ 0)]) rfl ?_
        exact EWz hx hb hr hlocks hS (fun i => [0, 1].getD i 0, fun i => [0, up, lo].getD i 0, fun i => [].getD i (fun _ => 0), fun i => [].getD i (fun _ => 0)) rfl rfl trivial (hP.sub [4, 0, 1, 2, 3] rfl) (hD.sub [4, 0, 1, 2, 3] rfl rfl) dX11_meanPrice_50
      ·
        subst qz_44
        refine lv_if_eq (tgt := 45) hx hb dX11_meanPrice_37 (by decide) (fun _ => ?_) (fun c => absurd (by decide) c)
        refine lv_aload_n hx hb dX11_meanPrice_45 rfl (lv_at hl 1 rfl) ?_
        refine lv_iconst (v := iZ 1) hx hb dX11_meanPrice_46 (by decide) ?_
        refine CWV (As := [.int (iZ 1)]) (rest := []) (wc := [(hx1, .inr (11, [.ref ta, .ref hw1, .ref hw12, .ref ka, .ref hr1, .ref hq, .ref hv, .ref h, .ref hn1, .ref hL, .ref li, .int (iZ ev), .int (iZ mk), .int (iZ ou), .long up, .long lo]))]) (wr := [(hw1, .inr (8, [.ref hs, .ref hc, .ref hy])), (hs, .inr (5, fs)), (hf, .inl (k 1, 36, .inl f)), (hg, .inl (k 1, 32, .inl g))]) hx hb hml hown hts hKK hP hD hS hA (k_deny l D k hx1 ta hw1 hw12 ka hr1 hq hv h hn1 hL li ev mk ou up lo 1) ci_X11_deny qm_X11_107 ⟨Nat.le_of_ble_eq_true rfl, Nat.le_of_ble_eq_true rfl⟩ ⟨Nat.le_of_ble_eq_true rfl, Nat.le_of_ble_eq_true rfl⟩ [0] [1, 2, 3, 4] rfl rfl rfl rfl rfl (by decide) 0 rfl rfl rfl hl.1 rfl (Nat.le_of_ble_eq_true rfl) dX11_meanPrice_47 (fun u_54 H locs hφ hP hD hS => ?_)
        obtain ⟨I_55, L_56, F_57, G_58⟩ := u_54
        refine W.eq (g2 := F0 m 50 ls [.int (iZ 0)]) rfl ?_
        exact EWz hx hb hr hlocks hS (fun i => [0, 1].getD i 0, fun i => [0, up, lo].getD i 0, fun i => [].getD i (fun _ => 0), fun i => [].getD i (fun _ => 0)) rfl rfl trivial (hP.sub [4, 0, 1, 2, 3] rfl) (hD.sub [4, 0, 1, 2, 3] rfl rfl) dX11_meanPrice_50
  ·
    subst qz_1
    refine lv_if_eq (tgt := 29) hx hb dX11_meanPrice_7 (by decide) (fun _ => ?_) (fun c => absurd (by decide) c)
    refine lv_iconst (v := iZ 0) hx hb dX11_meanPrice_29 (by decide) ?_
    refine lv_istore (lv' := [(4, .int (iZ 0)), (0, .ref hx1), (1, .int (iZ x1)), (2, .int (iZ x2)), (3, .int (iZ x3))]) hx hb dX11_meanPrice_30 hl (by decide) rfl (fun ls hl => ?_)
    refine lv_aload_n hx hb dX11_meanPrice_32 rfl (lv_at hl 1 rfl) ?_
    refine lv_iload_n hx hb dX11_meanPrice_33 rfl (lv_at hl 2 rfl) ?_
    refine CPV (As := [.int (iZ x1)]) (rest := []) hx hb hml hown hts hKK (hP.sub (ws' := [(hx1, .inr (11, [.ref ta, .ref hw1, .ref hw12, .ref ka, .ref hr1, .ref hq, .ref hv, .ref h, .ref hn1, .ref hL, .ref li, .int (iZ ev), .int (iZ mk), .int (iZ ou), .long up, .long lo])), (hw1, .inr (8, [.ref hs, .ref hc, .ref hy])), (hs, .inr (5, fs))]) [0, 1, 2] rfl) (k_isRock l D k hx1 ta hw1 hw12 ka hr1 hq hv h hn1 hL li ev mk ou up lo fs hs hc hy n x1 f3 ⟨by omega, by omega⟩ ⟨by omega, by omega⟩) ci_X11_isRock qm_X11_221 ⟨Nat.le_of_ble_eq_true rfl, Nat.le_of_ble_eq_true rfl⟩ ⟨Nat.le_of_ble_eq_true rfl, Nat.le_of_ble_eq_true rfl⟩ 0 rfl rfl rfl hl.1 rfl (Nat.le_of_ble_eq_true rfl) dX11_meanPrice_34 (fun z_61 hz_61 => ?_)
    rcases hz_61 with ⟨qz_61, hz_61⟩ | ⟨qz_61, hz_61⟩
    ·
      subst qz_61
      refine lv_if_eq (tgt := 45) hx hb dX11_meanPrice_37 (by decide) (fun c => absurd c (by decide)) (fun _ => ?_)
      refine lv_iload hx hb dX11_meanPrice_40 (lv_at hl 0 rfl) ?_
      refine lv_if_ne (tgt := 51) hx hb dX11_meanPrice_42 (by decide) (fun c => absurd (by decide) c) (fun _ => ?_)
      refine lv_aload_n hx hb dX11_meanPrice_45 rfl (lv_at hl 1 rfl) ?_
      refine lv_iconst (v := iZ 1) hx hb dX11_meanPrice_46 (by decide) ?_
      refine CWV (As := [.int (iZ 1)]) (rest := []) (wc := [(hx1, .inr (11, [.ref ta, .ref hw1, .ref hw12, .ref ka, .ref hr1, .ref hq, .ref hv, .ref h, .ref hn1, .ref hL, .ref li, .int (iZ ev), .int (iZ mk), .int (iZ ou), .long up, .long lo]))]) (wr := [(hw1, .inr (8, [.ref hs, .ref hc, .ref hy])), (hs, .inr (5, fs)), (hf, .inl (k 1, 36, .inl f)), (hg, .inl (k 1, 32, .inl g))]) hx hb hml hown hts hKK hP hD hS hA (k_deny l D k hx1 ta hw1 hw12 ka hr1 hq hv h hn1 hL li ev mk ou up lo 1) ci_X11_deny qm_X11_107 ⟨Nat.le_of_ble_eq_true rfl, Nat.le_of_ble_eq_true rfl⟩ ⟨Nat.le_of_ble_eq_true rfl, Nat.le_of_ble_eq_true rfl⟩ [0] [1, 2, 3, 4] rfl rfl rfl rfl rfl (by decide) 0 rfl rfl rfl hl.1 rfl (Nat.le_of_ble_eq_true rfl) dX11_meanPrice_47 (fun u_64 H locs hφ hP hD hS => ?_)
      obtain ⟨I_65, L_66, F_67, G_68⟩ := u_64
      refine W.eq (g2 := F0 m 50 ls [.int (iZ 0)]) rfl ?_
      exact EWz hx hb hr hlocks hS (fun i => [0, 1].getD i 0, fun i => [0, up, lo].getD i 0, fun i => [].getD i (fun _ => 0), fun i => [].getD i (fun _ => 0)) rfl rfl trivial (hP.sub [4, 0, 1, 2, 3] rfl) (hD.sub [4, 0, 1, 2, 3] rfl rfl) dX11_meanPrice_50
    ·
      subst qz_61
      refine lv_if_eq (tgt := 45) hx hb dX11_meanPrice_37 (by decide) (fun _ => ?_) (fun c => absurd (by decide) c)
      refine lv_aload_n hx hb dX11_meanPrice_45 rfl (lv_at hl 1 rfl) ?_
      refine lv_iconst (v := iZ 1) hx hb dX11_meanPrice_46 (by decide) ?_
      refine CWV (As := [.int (iZ 1)]) (rest := []) (wc := [(hx1, .inr (11, [.ref ta, .ref hw1, .ref hw12, .ref ka, .ref hr1, .ref hq, .ref hv, .ref h, .ref hn1, .ref hL, .ref li, .int (iZ ev), .int (iZ mk), .int (iZ ou), .long up, .long lo]))]) (wr := [(hw1, .inr (8, [.ref hs, .ref hc, .ref hy])), (hs, .inr (5, fs)), (hf, .inl (k 1, 36, .inl f)), (hg, .inl (k 1, 32, .inl g))]) hx hb hml hown hts hKK hP hD hS hA (k_deny l D k hx1 ta hw1 hw12 ka hr1 hq hv h hn1 hL li ev mk ou up lo 1) ci_X11_deny qm_X11_107 ⟨Nat.le_of_ble_eq_true rfl, Nat.le_of_ble_eq_true rfl⟩ ⟨Nat.le_of_ble_eq_true rfl, Nat.le_of_ble_eq_true rfl⟩ [0] [1, 2, 3, 4] rfl rfl rfl rfl rfl (by decide) 0 rfl rfl rfl hl.1 rfl (Nat.le_of_ble_eq_true rfl) dX11_meanPrice_47 (fun u_71 H locs hφ hP hD hS => ?_)
      obtain ⟨I_72, L_73, F_74, G_75⟩ := u_71
      refine W.eq (g2 := F0 m 50 ls [.int (iZ 0)]) rfl ?_
      exact EWz hx hb hr hlocks hS (fun i => [0, 1].getD i 0, fun i => [0, up, lo].getD i 0, fun i => [].getD i (fun _ => 0), fun i => [].getD i (fun _ => 0)) rfl rfl trivial (hP.sub [4, 0, 1, 2, 3] rfl) (hD.sub [4, 0, 1, 2, 3] rfl rfl) dX11_meanPrice_50
